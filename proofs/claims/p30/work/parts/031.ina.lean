def wsL_law0_r1_c0 : List Cond := [Cond.classLink RL 10 RX6, Cond.instantiable RX6 5, Cond.initialized RX6, Cond.arrayClass .int, Cond.arrayClass .long, Cond.methodLink RL 134 yX6_init, Cond.instanceMethod yX6_init, Cond.code yX6_init cX6_init 1 none, Cond.methodLink RX6 1 objectInit, Cond.instanceMethod objectInit]
set_option maxRecDepth 20000 in
theorem wsL_law0_r1_c0_in : ∀ w ∈ wsL_law0_r1_c0, w ∈ lw_tbl := k_memAt [28, 29, 13, 52, 612, 30, 31, 32, 33, 34] (by decide +kernel)
def wsL_law0_r1_c1 : List Cond := [Cond.code objectInit ⟨#[0xb1]⟩ 1 none, Cond.classLink RX6 7 RX4, Cond.instantiable RX4 6, Cond.initialized RX4, Cond.fieldLink RX6 10 "CrochetRounds" "piece" "LCrochetRounds$Piece;", Cond.classLink RX6 16 RX0, Cond.instantiable RX0 3, Cond.initialized RX0, Cond.fieldLink RX6 19 "CrochetRounds" "history" "LCrochetRounds$History;", Cond.classLink RX6 23 RX3]
set_option maxRecDepth 20000 in
theorem wsL_law0_r1_c1_in : ∀ w ∈ wsL_law0_r1_c1, w ∈ lw_tbl := k_memAt [35, 36, 37, 14, 196, 80, 81, 16, 197, 99] (by decide +kernel)
def wsL_law0_r1_c2 : List Cond := [Cond.instantiable RX3 10, Cond.initialized RX3, Cond.fieldLink RX6 26 "CrochetRounds" "pattern" "LCrochetRounds$Pattern;", Cond.classLink RX6 30 RX5]
set_option maxRecDepth 20000 in
theorem wsL_law0_r1_c2_in : ∀ w ∈ wsL_law0_r1_c2, w ∈ lw_tbl := k_memAt [100, 17, 198, 131] (by decide +kernel)
theorem wsL_law0_r1_in : ∀ w ∈ wsL_law0_r1, w ∈ lw_tbl := k_memApp wsL_law0_r1_c0_in (k_memApp wsL_law0_r1_c1_in wsL_law0_r1_c2_in)
def wsL_law0_r2_c0 : List Cond := [Cond.instantiable RX5 4, Cond.initialized RX5, Cond.fieldLink RX6 33 "CrochetRounds" "plan" "LCrochetRounds$Plan;", Cond.classLink RX6 37 RX1, Cond.instantiable RX1 1, Cond.initialized RX1, Cond.fieldLink RX6 40 "CrochetRounds" "makers" "LCrochetRounds$Makers;", Cond.fieldLink RX6 44 "CrochetRounds$Piece" "yarn" "LCrochetRounds$Numbers;", Cond.instanceMethod yX4_init, Cond.code yX4_init cX4_init 1 none]
set_option maxRecDepth 20000 in
theorem wsL_law0_r2_c0_in : ∀ w ∈ wsL_law0_r2_c0, w ∈ lw_tbl := k_memAt [132, 18, 199, 156, 157, 19, 200, 62, 39, 40] (by decide +kernel)
def wsL_law0_r2_c1 : List Cond := [Cond.methodLink RX4 3 objectInit, Cond.classLink RX4 9 RX2, Cond.instantiable RX2 1, Cond.initialized RX2, Cond.fieldLink RX4 14 "CrochetRounds$Piece" "kinds" "LCrochetRounds$Numbers;", Cond.fieldLink RX4 20 "CrochetRounds$Piece" "works" "LCrochetRounds$Numbers;", Cond.fieldLink RX4 23 "CrochetRounds$Piece" "totals" "LCrochetRounds$Numbers;", Cond.fieldLink RX4 26 "CrochetRounds$Piece" "yarn" "LCrochetRounds$Numbers;", Cond.methodLink RX4 11 yX2_init, Cond.instanceMethod yX2_init]
set_option maxRecDepth 20000 in
theorem wsL_law0_r2_c1_in : ∀ w ∈ wsL_law0_r2_c1, w ∈ lw_tbl := k_memAt [41, 42, 43, 15, 53, 56, 59, 61, 44, 45] (by decide +kernel)
def wsL_law0_r2_c2 : List Cond := [Cond.code yX2_init cX2_init 2 none, Cond.methodLink RX2 1 objectInit, Cond.fieldLink RX2 7 "CrochetRounds$Numbers" "held" "[I", Cond.methodLink RX6 18 yX0_init]
set_option maxRecDepth 20000 in
theorem wsL_law0_r2_c2_in : ∀ w ∈ wsL_law0_r2_c2, w ∈ lw_tbl := k_memAt [46, 47, 48, 82] (by decide +kernel)
theorem wsL_law0_r2_in : ∀ w ∈ wsL_law0_r2, w ∈ lw_tbl := k_memApp wsL_law0_r2_c0_in (k_memApp wsL_law0_r2_c1_in wsL_law0_r2_c2_in)
def wsL_law0_r3_c0 : List Cond := [Cond.instanceMethod yX0_init, Cond.code yX0_init cX0_init 2 none, Cond.methodLink RX0 3 objectInit, Cond.classLink RX0 9 RX4, Cond.fieldLink RX0 11 "CrochetRounds$History" "slots" "[LCrochetRounds$Piece;", Cond.instanceMethod yX3_init, Cond.code yX3_init cX3_init 1 none, Cond.methodLink RX3 3 objectInit, Cond.classLink RX3 9 RX2, Cond.fieldLink RX3 14 "CrochetRounds$Pattern" "bytes" "LCrochetRounds$Numbers;"]
set_option maxRecDepth 20000 in
theorem wsL_law0_r3_c0_in : ∀ w ∈ wsL_law0_r3_c0, w ∈ lw_tbl := k_memAt [83, 84, 85, 86, 89, 102, 103, 104, 105, 107] (by decide +kernel)
def wsL_law0_r3_c1 : List Cond := [Cond.fieldLink RX3 20 "CrochetRounds$Pattern" "itemKinds" "LCrochetRounds$Numbers;", Cond.fieldLink RX3 23 "CrochetRounds$Pattern" "itemCounts" "LCrochetRounds$Numbers;", Cond.methodLink RX3 11 yX2_init, Cond.instanceMethod yX5_init, Cond.code yX5_init cX5_init 1 none, Cond.methodLink RX5 3 objectInit, Cond.classLink RX5 9 RX2, Cond.fieldLink RX5 14 "CrochetRounds$Plan" "row" "LCrochetRounds$Numbers;", Cond.methodLink RX5 11 yX2_init, Cond.instanceMethod yX1_init]
set_option maxRecDepth 20000 in
theorem wsL_law0_r3_c1_in : ∀ w ∈ wsL_law0_r3_c1, w ∈ lw_tbl := k_memAt [108, 109, 106, 134, 135, 136, 137, 139, 138, 159] (by decide +kernel)
def wsL_law0_r3_c2 : List Cond := [Cond.code yX1_init cX1_init 1 none, Cond.methodLink RX1 3 objectInit, Cond.classLink RX1 9 RX2, Cond.fieldLink RX1 14 "CrochetRounds$Makers" "kinds" "LCrochetRounds$Numbers;"]
set_option maxRecDepth 20000 in
theorem wsL_law0_r3_c2_in : ∀ w ∈ wsL_law0_r3_c2, w ∈ lw_tbl := k_memAt [160, 161, 162, 164] (by decide +kernel)
theorem wsL_law0_r3_in : ∀ w ∈ wsL_law0_r3, w ∈ lw_tbl := k_memApp wsL_law0_r3_c0_in (k_memApp wsL_law0_r3_c1_in wsL_law0_r3_c2_in)
def wsL_law0_r4_c0 : List Cond := [Cond.methodLink RX1 11 yX2_init, Cond.methodLink RX6 48 yX2_put, Cond.instanceMethod yX2_put, Cond.selects RX2 yX2_put yX2_put, Cond.code yX2_put cX2_put 3 none, Cond.methodLink RX6 54 yX4_startRing, Cond.instanceMethod yX4_startRing, Cond.selects RX4 yX4_startRing yX4_startRing, Cond.code yX4_startRing cX4_startRing 3 none, Cond.fieldLink RX4 29 "CrochetRounds$Piece" "rounds" "I"]
set_option maxRecDepth 20000 in
theorem wsL_law0_r4_c0_in : ∀ w ∈ wsL_law0_r4_c0, w ∈ lw_tbl := k_memAt [163, 168, 169, 170, 171, 172, 173, 174, 175, 63] (by decide +kernel)
def wsL_law0_r4_c1 : List Cond := [Cond.methodLink RX4 45 yX4_openRound, Cond.instanceMethod yX4_openRound, Cond.selects RX4 yX4_openRound yX4_openRound, Cond.code yX4_openRound cX4_openRound 1 none, Cond.methodLink RX4 54 yX2_put, Cond.methodLink RX4 48 yX4_addWork, Cond.instanceMethod yX4_addWork, Cond.selects RX4 yX4_addWork yX4_addWork, Cond.code yX4_addWork cX4_addWork 3 none, Cond.methodLink RX4 41 yX2_at]
set_option maxRecDepth 20000 in
theorem wsL_law0_r4_c1_in : ∀ w ∈ wsL_law0_r4_c1, w ∈ lw_tbl := k_memAt [176, 177, 178, 179, 180, 181, 182, 183, 184, 185] (by decide +kernel)
def wsL_law0_r4_c2 : List Cond := [Cond.instanceMethod yX2_at, Cond.selects RX2 yX2_at yX2_at, Cond.code yX2_at cX2_at 2 (some .int), Cond.static yX6_madeBy]
set_option maxRecDepth 20000 in
theorem wsL_law0_r4_c2_in : ∀ w ∈ wsL_law0_r4_c2, w ∈ lw_tbl := k_memAt [186, 187, 188, 190] (by decide +kernel)
theorem wsL_law0_r4_in : ∀ w ∈ wsL_law0_r4, w ∈ lw_tbl := k_memApp wsL_law0_r4_c0_in (k_memApp wsL_law0_r4_c1_in wsL_law0_r4_c2_in)
def wsL_law0_r5_c0 : List Cond := [Cond.code yX6_madeBy cX6_madeBy 1 (some .int), Cond.methodLink RX4 51 yX4_closeRound, Cond.instanceMethod yX4_closeRound, Cond.selects RX4 yX4_closeRound yX4_closeRound, Cond.code yX4_closeRound cX4_closeRound 1 none, Cond.methodLink RL 135 yL_isSo, Cond.static yL_isSo, Cond.initialized RL, Cond.code yL_isSo cL_isSo 12 (some .boolean), Cond.methodLink RL 127 yL_isRound]
set_option maxRecDepth 20000 in
theorem wsL_law0_r5_c0_in : ∀ w ∈ wsL_law0_r5_c0, w ∈ lw_tbl := k_memAt [191, 192, 193, 194, 195, 571, 572, 12, 573, 574] (by decide +kernel)
def wsL_law0_r5_c1 : List Cond := [Cond.static yL_isRound]
set_option maxRecDepth 20000 in
theorem wsL_law0_r5_c1_in : ∀ w ∈ wsL_law0_r5_c1, w ∈ lw_tbl := k_memAt [575] (by decide +kernel)
def wsL_law0_r5_c2 : List Cond := [Cond.code yL_isRound cL_isRound 19 (some .boolean)]
set_option maxRecDepth 20000 in
theorem wsL_law0_r5_c2_in : ∀ w ∈ wsL_law0_r5_c2, w ∈ lw_tbl := fun w h => (List.mem_singleton.mp h) ▸ List.mem_of_getElem? (i := 576) (a := Cond.code yL_isRound cL_isRound 19 (some .boolean)) rfl
def wsL_law0_r5_c3 : List Cond := [Cond.methodLink RL 53 yL_total, Cond.static yL_total, Cond.code yL_total cL_total 5 (some .int), Cond.methodLink RL 43 yL_kind, Cond.static yL_kind, Cond.code yL_kind cL_kind 3 (some .int), Cond.constantLong RL 41 (3), Cond.methodLink RL 121 yL_workOf, Cond.static yL_workOf, Cond.codeWith yL_workOf cL_workOf 4 (some .int) [(0, 6, 7, 113)]]
set_option maxRecDepth 20000 in
theorem wsL_law0_r5_c3_in : ∀ w ∈ wsL_law0_r5_c3, w ∈ lw_tbl := k_memAt [224, 225, 226, 227, 228, 229, 230, 577, 578, 579] (by decide +kernel)
def wsL_law0_r5_c4 : List Cond := [Cond.classLink RL 113 "java/lang/IndexOutOfBoundsException", Cond.methodLink RL 115 yX6_work]
set_option maxRecDepth 20000 in
theorem wsL_law0_r5_c4_in : ∀ w ∈ wsL_law0_r5_c4, w ∈ lw_tbl := k_memAt [580, 581] (by decide +kernel)
theorem wsL_law0_r5_in : ∀ w ∈ wsL_law0_r5, w ∈ lw_tbl := k_memApp wsL_law0_r5_c0_in (k_memApp wsL_law0_r5_c1_in (k_memApp wsL_law0_r5_c2_in (k_memApp wsL_law0_r5_c3_in wsL_law0_r5_c4_in)))
def wsL_law0_r6_c0 : List Cond := [Cond.instanceMethod yX6_work, Cond.selects RX6 yX6_work yX6_work, Cond.code yX6_work cX6_work 3 (some .int), Cond.fieldLink RX6 62 "CrochetRounds$Piece" "rounds" "I", Cond.fieldLink RX6 128 "CrochetRounds$Piece" "works" "LCrochetRounds$Numbers;", Cond.methodLink RX6 121 yX6_checkIndex, Cond.static yX6_checkIndex, Cond.code yX6_checkIndex cX6_checkIndex 2 none, Cond.classLink RX6 234 "java/lang/IndexOutOfBoundsException", Cond.initialized "java/lang/IndexOutOfBoundsException"]
set_option maxRecDepth 20000 in
theorem wsL_law0_r6_c0_in : ∀ w ∈ wsL_law0_r6_c0, w ∈ lw_tbl := k_memAt [582, 583, 584, 64, 58, 585, 586, 587, 588, 23] (by decide +kernel)
def wsL_law0_r6_c1 : List Cond := [Cond.methodLink RX6 114 yX2_at, Cond.methodLink RX6 131 yX4_kindOf, Cond.instanceMethod yX4_kindOf, Cond.selects RX4 yX4_kindOf yX4_kindOf, Cond.code yX4_kindOf cX4_kindOf 3 (some .int), Cond.methodLink RL 124 yL_roundOf, Cond.static yL_roundOf, Cond.codeWith yL_roundOf cL_roundOf 4 (some .int) [(0, 6, 7, 113), (0, 6, 12, 15)], Cond.classLink RL 15 "java/lang/IllegalArgumentException", Cond.methodLink RL 110 yX6_round]
set_option maxRecDepth 20000 in
theorem wsL_law0_r6_c1_in : ∀ w ∈ wsL_law0_r6_c1, w ∈ lw_tbl := k_memAt [339, 604, 543, 544, 545, 605, 606, 607, 234, 608] (by decide +kernel)
def wsL_law0_r6_c2 : List Cond := [Cond.instanceMethod yX6_round, Cond.selects RX6 yX6_round yX6_round, Cond.code yX6_round cX6_round 3 (some .int), Cond.methodLink RX6 58 yX6_checkArgument]
set_option maxRecDepth 20000 in
theorem wsL_law0_r6_c2_in : ∀ w ∈ wsL_law0_r6_c2, w ∈ lw_tbl := k_memAt [609, 610, 611, 239] (by decide +kernel)
theorem wsL_law0_r6_in : ∀ w ∈ wsL_law0_r6, w ∈ lw_tbl := k_memApp wsL_law0_r6_c0_in (k_memApp wsL_law0_r6_c1_in wsL_law0_r6_c2_in)
