def wsL_law0_r13_c0 : List Cond := [Cond.classLink RX6 224 "java/lang/IllegalStateException", Cond.initialized "java/lang/IllegalStateException", Cond.methodLink RL 85 yL_goal, Cond.static yL_goal, Cond.code yL_goal cL_goal 6 (some .int), Cond.methodLink RL 89 yL_canBe, Cond.static yL_canBe, Cond.code yL_canBe cL_canBe 2 (some .boolean), Cond.methodLink RL 93 yL_best, Cond.static yL_best]
set_option maxRecDepth 20000 in
theorem wsL_law0_r13_c0_in : ∀ w ∈ wsL_law0_r13_c0, w ∈ lw_tbl := k_memAt [355, 26, 375, 376, 377, 378, 379, 380, 381, 382] (by decide +kernel)
def wsL_law0_r13_c1 : List Cond := [Cond.code yL_best cL_best 9 (some .int), Cond.methodLink RL 59 yL_lays, Cond.static yL_lays, Cond.code yL_lays cL_lays 14 none, Cond.constantLong RL 57 (2), Cond.methodLink RL 97 yL_shapes, Cond.static yL_shapes, Cond.codeWith yL_shapes cL_shapes 5 (some .int) [(0, 7, 8, 15)], Cond.methodLink RL 31 yX6_addShape, Cond.instanceMethod yX6_addShape]
set_option maxRecDepth 20000 in
theorem wsL_law0_r13_c1_in : ∀ w ∈ wsL_law0_r13_c1, w ∈ lw_tbl := k_memAt [383, 384, 385, 386, 387, 394, 395, 396, 397, 398] (by decide +kernel)
def wsL_law0_r13_c2 : List Cond := [Cond.selects RX6 yX6_addShape yX6_addShape, Cond.code yX6_addShape cX6_addShape 6 (some .int), Cond.methodLink RX6 101 yX6_isShape, Cond.static yX6_isShape]
set_option maxRecDepth 20000 in
theorem wsL_law0_r13_c2_in : ∀ w ∈ wsL_law0_r13_c2, w ∈ lw_tbl := k_memAt [399, 400, 401, 402] (by decide +kernel)
theorem wsL_law0_r13_in : ∀ w ∈ wsL_law0_r13, w ∈ lw_tbl := k_memApp wsL_law0_r13_c0_in (k_memApp wsL_law0_r13_c1_in wsL_law0_r13_c2_in)
def wsL_law0_r14_c0 : List Cond := [Cond.code yX6_isShape cX6_isShape 1 (some .boolean), Cond.methodLink RX6 104 yX6_isSize, Cond.static yX6_isSize, Cond.code yX6_isSize cX6_isSize 1 (some .boolean), Cond.methodLink RX6 107 yX6_shapeGoal, Cond.instanceMethod yX6_shapeGoal, Cond.selects RX6 yX6_shapeGoal yX6_shapeGoal, Cond.code yX6_shapeGoal cX6_shapeGoal 5 (some .int), Cond.methodLink RX6 286 Lib.Math.min.name, Cond.methodLink RX6 291 Lib.Math.max.name]
set_option maxRecDepth 20000 in
theorem wsL_law0_r14_c0_in : ∀ w ∈ wsL_law0_r14_c0, w ∈ lw_tbl := k_memAt [403, 404, 405, 406, 407, 409, 2, 410, 414, 418] (by decide +kernel)
def wsL_law0_r14_c1 : List Cond := [Cond.methodLink RX6 282 yX6_rawGoal, Cond.static yX6_rawGoal, Cond.code yX6_rawGoal cX6_rawGoal 4 (some .int), Cond.methodLink RX6 294 yX6_doubled, Cond.static yX6_doubled, Cond.code yX6_doubled cX6_doubled 4 (some .int), Cond.methodLink RX6 81 yX5_spread, Cond.instanceMethod yX5_spread, Cond.selects RX5 yX5_spread yX5_spread, Cond.code yX5_spread cX5_spread 4 (some .boolean)]
set_option maxRecDepth 20000 in
theorem wsL_law0_r14_c1_in : ∀ w ∈ wsL_law0_r14_c1, w ∈ lw_tbl := k_memAt [411, 412, 413, 415, 416, 417, 421, 422, 423, 424] (by decide +kernel)
def wsL_law0_r14_c2 : List Cond := [Cond.fieldLink RX5 24 "CrochetRounds$Plan" "works" "I", Cond.fieldLink RX5 28 "CrochetRounds$Plan" "shaped" "I", Cond.methodLink RX5 20 yX5_measure, Cond.instanceMethod yX5_measure]
set_option maxRecDepth 20000 in
theorem wsL_law0_r14_c2_in : ∀ w ∈ wsL_law0_r14_c2, w ∈ lw_tbl := k_memAt [142, 145, 425, 427] (by decide +kernel)
theorem wsL_law0_r14_in : ∀ w ∈ wsL_law0_r14, w ∈ lw_tbl := k_memApp wsL_law0_r14_c0_in (k_memApp wsL_law0_r14_c1_in wsL_law0_r14_c2_in)
def wsL_law0_r15_c0 : List Cond := [Cond.selects RX5 yX5_measure yX5_measure, Cond.code yX5_measure cX5_measure 3 (some .boolean), Cond.fieldLink RX5 39 "CrochetRounds$Plan" "kind" "I", Cond.methodLink RX5 31 yX5_spreadKind, Cond.instanceMethod yX5_spreadKind, Cond.selects RX5 yX5_spreadKind yX5_spreadKind, Cond.code yX5_spreadKind cX5_spreadKind 4 (some .int), Cond.methodLink RX5 35 yX2_put, Cond.methodLink RX6 88 yX6_addBest, Cond.instanceMethod yX6_addBest]
set_option maxRecDepth 20000 in
theorem wsL_law0_r15_c0_in : ∀ w ∈ wsL_law0_r15_c0, w ∈ lw_tbl := k_memAt [3, 428, 146, 429, 431, 4, 432, 433, 434, 436] (by decide +kernel)
def wsL_law0_r15_c1 : List Cond := [Cond.selects RX6 yX6_addBest yX6_addBest, Cond.code yX6_addBest cX6_addBest 2 (some .int), Cond.methodLink RX6 239 yX1_bestShift, Cond.instanceMethod yX1_bestShift, Cond.selects RX1 yX1_bestShift yX1_bestShift, Cond.code yX1_bestShift cX1_bestShift 6 (some .int), Cond.fieldLink RX1 40 "CrochetRounds$Plan" "row" "LCrochetRounds$Numbers;", Cond.fieldLink RX1 45 "CrochetRounds$Plan" "works" "I", Cond.methodLink RX1 48 yX1_stackedIn, Cond.methodLink RX6 243 yX6_addRow]
set_option maxRecDepth 20000 in
theorem wsL_law0_r15_c1_in : ∀ w ∈ wsL_law0_r15_c1, w ∈ lw_tbl := k_memAt [5, 437, 445, 446, 447, 448, 140, 143, 449, 456] (by decide +kernel)
def wsL_law0_r15_c2 : List Cond := [Cond.instanceMethod yX6_addRow, Cond.selects RX6 yX6_addRow yX6_addRow, Cond.code yX6_addRow cX6_addRow 4 none, Cond.fieldLink RX6 162 "CrochetRounds$Plan" "works" "I"]
set_option maxRecDepth 20000 in
theorem wsL_law0_r15_c2_in : ∀ w ∈ wsL_law0_r15_c2, w ∈ lw_tbl := k_memAt [458, 6, 459, 144] (by decide +kernel)
theorem wsL_law0_r15_in : ∀ w ∈ wsL_law0_r15, w ∈ lw_tbl := k_memApp wsL_law0_r15_c0_in (k_memApp wsL_law0_r15_c1_in wsL_law0_r15_c2_in)
def wsL_law0_r16_c0 : List Cond := [Cond.fieldLink RX6 159 "CrochetRounds$Plan" "row" "LCrochetRounds$Numbers;", Cond.methodLink RX6 246 yX4_openRound, Cond.methodLink RX6 249 yX4_addWork, Cond.methodLink RX6 252 yX4_closeRound, Cond.methodLink RL 101 yL_adds, Cond.static yL_adds, Cond.codeWith yL_adds cL_adds 3 (some .int) [(0, 5, 6, 15), (0, 5, 11, 20), (0, 5, 16, 22)], Cond.classLink RL 22 "java/lang/UnsupportedOperationException", Cond.methodLink RL 17 yX6_addRound, Cond.instanceMethod yX6_addRound]
set_option maxRecDepth 20000 in
theorem wsL_law0_r16_c0_in : ∀ w ∈ wsL_law0_r16_c0, w ∈ lw_tbl := k_memAt [141, 460, 461, 462, 463, 464, 465, 466, 467, 468] (by decide +kernel)
def wsL_law0_r16_c1 : List Cond := [Cond.selects RX6 yX6_addRound yX6_addRound, Cond.code yX6_addRound cX6_addRound 2 (some .int), Cond.methodLink RX6 70 yX6_isGoal, Cond.static yX6_isGoal, Cond.code yX6_isGoal cX6_isGoal 1 (some .boolean), Cond.methodLink RX6 74 yX6_checkRoom, Cond.instanceMethod yX6_checkRoom, Cond.selects RX6 yX6_checkRoom yX6_checkRoom, Cond.code yX6_checkRoom cX6_checkRoom 1 none, Cond.methodLink RX6 85 yX6_checkPossible]
set_option maxRecDepth 20000 in
theorem wsL_law0_r16_c1_in : ∀ w ∈ wsL_law0_r16_c1, w ∈ lw_tbl := k_memAt [469, 470, 471, 472, 473, 474, 476, 7, 477, 478] (by decide +kernel)
def wsL_law0_r16_c2 : List Cond := [Cond.static yX6_checkPossible, Cond.code yX6_checkPossible cX6_checkPossible 1 none, Cond.classLink RX6 229 "java/lang/UnsupportedOperationException", Cond.initialized "java/lang/UnsupportedOperationException"]
set_option maxRecDepth 20000 in
theorem wsL_law0_r16_c2_in : ∀ w ∈ wsL_law0_r16_c2, w ∈ lw_tbl := k_memAt [479, 480, 481, 27] (by decide +kernel)
theorem wsL_law0_r16_in : ∀ w ∈ wsL_law0_r16, w ∈ lw_tbl := k_memApp wsL_law0_r16_c0_in (k_memApp wsL_law0_r16_c1_in wsL_law0_r16_c2_in)
def wsL_law0_r17_c0 : List Cond := [Cond.methodLink RL 104 yL_shifts, Cond.static yL_shifts, Cond.codeWith yL_shifts cL_shifts 4 (some .int) [(0, 6, 7, 15), (0, 6, 12, 20), (0, 6, 17, 22)], Cond.methodLink RL 24 yX6_addShifted, Cond.instanceMethod yX6_addShifted, Cond.selects RX6 yX6_addShifted yX6_addShifted, Cond.code yX6_addShifted cX6_addShifted 3 (some .int), Cond.methodLink RX6 91 yX6_isShift, Cond.static yX6_isShift, Cond.code yX6_isShift cX6_isShift 1 (some .boolean)]
set_option maxRecDepth 20000 in
theorem wsL_law0_r17_c0_in : ∀ w ∈ wsL_law0_r17_c0, w ∈ lw_tbl := k_memAt [497, 498, 499, 500, 501, 502, 503, 504, 505, 506] (by decide +kernel)
def wsL_law0_r17_c1 : List Cond := [Cond.methodLink RX6 94 yX6_addPlanned, Cond.instanceMethod yX6_addPlanned, Cond.selects RX6 yX6_addPlanned yX6_addPlanned, Cond.code yX6_addPlanned cX6_addPlanned 3 (some .int), Cond.methodLink RL 107 yL_mirrors, Cond.static yL_mirrors, Cond.codeWith yL_mirrors cL_mirrors 3 (some .int) [(0, 5, 6, 15), (0, 5, 11, 20), (0, 5, 16, 22)], Cond.methodLink RL 28 yX6_addMirrored, Cond.instanceMethod yX6_addMirrored, Cond.selects RX6 yX6_addMirrored yX6_addMirrored]
set_option maxRecDepth 20000 in
theorem wsL_law0_r17_c1_in : ∀ w ∈ wsL_law0_r17_c1, w ∈ lw_tbl := k_memAt [507, 509, 8, 510, 512, 513, 514, 515, 516, 517] (by decide +kernel)
def wsL_law0_r17_c2 : List Cond := [Cond.code yX6_addMirrored cX6_addMirrored 2 (some .int), Cond.methodLink RX6 98 yX5_mirror, Cond.instanceMethod yX5_mirror, Cond.selects RX5 yX5_mirror yX5_mirror]
set_option maxRecDepth 20000 in
theorem wsL_law0_r17_c2_in : ∀ w ∈ wsL_law0_r17_c2, w ∈ lw_tbl := k_memAt [518, 519, 520, 521] (by decide +kernel)
theorem wsL_law0_r17_in : ∀ w ∈ wsL_law0_r17, w ∈ lw_tbl := k_memApp wsL_law0_r17_c0_in (k_memApp wsL_law0_r17_c1_in wsL_law0_r17_c2_in)
def wsL_law0_r18_c0 : List Cond := [Cond.code yX5_mirror cX5_mirror 8 (some .boolean)]
set_option maxRecDepth 20000 in
theorem wsL_law0_r18_c0_in : ∀ w ∈ wsL_law0_r18_c0, w ∈ lw_tbl := k_memAt [522] (by decide +kernel)
theorem wsL_law0_r18_in : ∀ w ∈ wsL_law0_r18, w ∈ lw_tbl := wsL_law0_r18_c0_in
