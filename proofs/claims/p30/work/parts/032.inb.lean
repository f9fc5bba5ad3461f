def wsL_law0_r7_c0 : List Cond := [Cond.static yX6_checkArgument, Cond.code yX6_checkArgument cX6_checkArgument 1 none, Cond.classLink RX6 217 "java/lang/IllegalArgumentException", Cond.initialized "java/lang/IllegalArgumentException", Cond.methodLink RX6 124 yX6_ofRound, Cond.instanceMethod yX6_ofRound, Cond.selects RX6 yX6_ofRound yX6_ofRound, Cond.code yX6_ofRound cX6_ofRound 3 (some .int), Cond.fieldLink RX6 146 "CrochetRounds$Piece" "totals" "LCrochetRounds$Numbers;", Cond.methodLink RX6 267 yX4_countOf]
set_option maxRecDepth 20000 in
theorem wsL_law0_r7_c0_in : ∀ w ∈ wsL_law0_r7_c0, w ∈ lw_tbl := k_memAt [240, 241, 242, 24, 534, 536, 10, 537, 60, 538] (by decide +kernel)
def wsL_law0_r7_c1 : List Cond := [Cond.instanceMethod yX4_countOf, Cond.selects RX4 yX4_countOf yX4_countOf, Cond.code yX4_countOf cX4_countOf 6 (some .int), Cond.methodLink RX4 61 yX4_kindOf, Cond.methodLink RX6 270 yX6_stackedOf, Cond.instanceMethod yX6_stackedOf, Cond.selects RX6 yX6_stackedOf yX6_stackedOf, Cond.code yX6_stackedOf cX6_stackedOf 2 (some .int), Cond.fieldLink RX6 279 "CrochetRounds$Piece" "kinds" "LCrochetRounds$Numbers;", Cond.methodLink RX6 155 yX1_load]
set_option maxRecDepth 20000 in
theorem wsL_law0_r7_c1_in : ∀ w ∈ wsL_law0_r7_c1, w ∈ lw_tbl := k_memAt [539, 540, 541, 542, 546, 548, 11, 549, 55, 438] (by decide +kernel)
def wsL_law0_r7_c2 : List Cond := [Cond.instanceMethod yX1_load, Cond.selects RX1 yX1_load yX1_load, Cond.code yX1_load cX1_load 7 none, Cond.fieldLink RX1 20 "CrochetRounds$Piece" "works" "LCrochetRounds$Numbers;"]
set_option maxRecDepth 20000 in
theorem wsL_law0_r7_c2_in : ∀ w ∈ wsL_law0_r7_c2, w ∈ lw_tbl := k_memAt [439, 440, 441, 57] (by decide +kernel)
theorem wsL_law0_r7_in : ∀ w ∈ wsL_law0_r7, w ∈ lw_tbl := k_memApp wsL_law0_r7_c0_in (k_memApp wsL_law0_r7_c1_in wsL_law0_r7_c2_in)
def wsL_law0_r8_c0 : List Cond := [Cond.fieldLink RX1 29 "CrochetRounds$Piece" "kinds" "LCrochetRounds$Numbers;", Cond.methodLink RX1 25 yX2_at, Cond.methodLink RX1 30 yX2_put, Cond.methodLink RX6 164 yX1_stackedIn, Cond.instanceMethod yX1_stackedIn, Cond.selects RX1 yX1_stackedIn yX1_stackedIn, Cond.code yX1_stackedIn cX1_stackedIn 11 (some .int), Cond.static yX6_usedBy, Cond.code yX6_usedBy cX6_usedBy 1 (some .int), Cond.methodLink RX6 273 yX4_isMirrored]
set_option maxRecDepth 20000 in
theorem wsL_law0_r8_c0_in : ∀ w ∈ wsL_law0_r8_c0, w ∈ lw_tbl := k_memAt [54, 442, 443, 511, 450, 451, 452, 454, 455, 550] (by decide +kernel)
def wsL_law0_r8_c1 : List Cond := [Cond.instanceMethod yX4_isMirrored, Cond.selects RX4 yX4_isMirrored yX4_isMirrored, Cond.code yX4_isMirrored cX4_isMirrored 4 (some .boolean), Cond.methodLink RX6 276 yX4_yarnOf, Cond.instanceMethod yX4_yarnOf, Cond.selects RX4 yX4_yarnOf yX4_yarnOf, Cond.code yX4_yarnOf cX4_yarnOf 5 (some .int), Cond.methodLink RX6 174 yX4_distance, Cond.instanceMethod yX4_distance, Cond.selects RX4 yX4_distance yX4_distance]
set_option maxRecDepth 20000 in
theorem wsL_law0_r8_c1_in : ∀ w ∈ wsL_law0_r8_c1, w ∈ lw_tbl := k_memAt [551, 552, 553, 554, 555, 556, 557, 558, 559, 560] (by decide +kernel)
def wsL_law0_r8_c2 : List Cond := [Cond.code yX4_distance cX4_distance 8 (some .int), Cond.methodLink RX4 71 yX4_further, Cond.static yX4_further, Cond.code yX4_further cX4_further 3 (some .int)]
set_option maxRecDepth 20000 in
theorem wsL_law0_r8_c2_in : ∀ w ∈ wsL_law0_r8_c2, w ∈ lw_tbl := k_memAt [561, 562, 563, 564] (by decide +kernel)
theorem wsL_law0_r8_in : ∀ w ∈ wsL_law0_r8, w ∈ lw_tbl := k_memApp wsL_law0_r8_c0_in (k_memApp wsL_law0_r8_c1_in wsL_law0_r8_c2_in)
def wsL_law0_r9_c0 : List Cond := [Cond.methodLink RX4 75 Lib.Math.max.name, Cond.static Lib.Math.max.name, Cond.initialized "java/lang/Math", Cond.code Lib.Math.max.name Lib.Math.max.code 2 (some .int), Cond.methodLink RX4 80 Lib.Math.min.name, Cond.static Lib.Math.min.name, Cond.code Lib.Math.min.name Lib.Math.min.code 2 (some .int), Cond.methodLink RL 63 yL_stacked, Cond.static yL_stacked, Cond.code yL_stacked cL_stacked 7 (some .int)]
set_option maxRecDepth 20000 in
theorem wsL_law0_r9_c0_in : ∀ w ∈ wsL_law0_r9_c0, w ∈ lw_tbl := k_memAt [565, 419, 25, 420, 566, 330, 331, 388, 389, 390] (by decide +kernel)
def wsL_law0_r9_c1 : List Cond := [Cond.methodLink RL 49 yL_isMade, Cond.static yL_isMade, Cond.code yL_isMade cL_isMade 8 (some .boolean), Cond.methodLink RL 131 yL_valueOf, Cond.static yL_valueOf, Cond.codeWith yL_valueOf cL_valueOf 3 (some .int) [(0, 5, 6, 15)], Cond.methodLink RL 118 yX6_value, Cond.instanceMethod yX6_value, Cond.selects RX6 yX6_value yX6_value, Cond.code yX6_value cX6_value 2 (some .int)]
set_option maxRecDepth 20000 in
theorem wsL_law0_r9_c1_in : ∀ w ∈ wsL_law0_r9_c1, w ∈ lw_tbl := k_memAt [391, 392, 393, 523, 524, 525, 526, 527, 528, 529] (by decide +kernel)
def wsL_law0_r9_c2 : List Cond := [Cond.fieldLink RX6 117 "CrochetRounds$Piece" "spiral" "Z", Cond.methodLink RX6 77 yX4_lastTotal, Cond.instanceMethod yX4_lastTotal, Cond.selects RX4 yX4_lastTotal yX4_lastTotal]
set_option maxRecDepth 20000 in
theorem wsL_law0_r9_c2_in : ∀ w ∈ wsL_law0_r9_c2, w ∈ lw_tbl := k_memAt [66, 371, 372, 373] (by decide +kernel)
theorem wsL_law0_r9_in : ∀ w ∈ wsL_law0_r9, w ∈ lw_tbl := k_memApp wsL_law0_r9_c0_in (k_memApp wsL_law0_r9_c1_in wsL_law0_r9_c2_in)
def wsL_law0_r10_c0 : List Cond := [Cond.code yX4_lastTotal cX4_lastTotal 1 (some .int), Cond.methodLink RX6 149 yX6_sumOverRounds, Cond.instanceMethod yX6_sumOverRounds, Cond.selects RX6 yX6_sumOverRounds yX6_sumOverRounds, Cond.code yX6_sumOverRounds cX6_sumOverRounds 4 (some .int), Cond.methodLink RX6 152 yX4_widest, Cond.instanceMethod yX4_widest, Cond.selects RX4 yX4_widest yX4_widest, Cond.code yX4_widest cX4_widest 3 (some .int), Cond.methodLink RL 139 yL_cell]
set_option maxRecDepth 20000 in
theorem wsL_law0_r10_c0_in : ∀ w ∈ wsL_law0_r10_c0, w ∈ lw_tbl := k_memAt [374, 530, 532, 9, 533, 567, 568, 569, 570, 212] (by decide +kernel)
def wsL_law0_r10_c1 : List Cond := [Cond.static yL_cell, Cond.code yL_cell cL_cell 2 (some .int), Cond.constant RL 7 (40503), Cond.methodLink RL 67 yL_low, Cond.static yL_low, Cond.code yL_low cL_low 2 (some .int), Cond.constant RL 8 (2147483647), Cond.methodLink RL 143 yL_acts, Cond.static yL_acts]
set_option maxRecDepth 20000 in
theorem wsL_law0_r10_c1_in : ∀ w ∈ wsL_law0_r10_c1, w ∈ lw_tbl := k_memAt [213, 214, 215, 216, 217, 218, 219, 220, 221] (by decide +kernel)
def wsL_law0_r10_c2 : List Cond := [Cond.code yL_acts cL_acts 15 (some .boolean)]
set_option maxRecDepth 20000 in
theorem wsL_law0_r10_c2_in : ∀ w ∈ wsL_law0_r10_c2, w ∈ lw_tbl := fun w h => (List.mem_singleton.mp h) ▸ List.mem_of_getElem? (i := 222) (a := Cond.code yL_acts cL_acts 15 (some .boolean)) rfl
def wsL_law0_r10_c3 : List Cond := [Cond.constant RL 66 (10000000), Cond.methodLink RL 70 yL_begins, Cond.static yL_begins, Cond.codeWith yL_begins cL_begins 3 (some .int) [(0, 5, 6, 15)]]
set_option maxRecDepth 20000 in
theorem wsL_law0_r10_c3_in : ∀ w ∈ wsL_law0_r10_c3, w ∈ lw_tbl := k_memAt [223, 231, 232, 233] (by decide +kernel)
theorem wsL_law0_r10_in : ∀ w ∈ wsL_law0_r10, w ∈ lw_tbl := k_memApp wsL_law0_r10_c0_in (k_memApp wsL_law0_r10_c1_in (k_memApp wsL_law0_r10_c2_in wsL_law0_r10_c3_in))
def wsL_law0_r11_c0 : List Cond := [Cond.methodLink RL 9 yX6_begin, Cond.instanceMethod yX6_begin, Cond.selects RX6 yX6_begin yX6_begin, Cond.code yX6_begin cX6_begin 3 (some .int), Cond.methodLink RX6 66 yX0_keep, Cond.instanceMethod yX0_keep, Cond.selects RX0 yX0_keep yX0_keep, Cond.code yX0_keep cX0_keep 3 none, Cond.fieldLink RX0 18 "CrochetRounds$History" "next" "I", Cond.fieldLink RX0 30 "CrochetRounds$History" "size" "I"]
set_option maxRecDepth 20000 in
theorem wsL_law0_r11_c0_in : ∀ w ∈ wsL_law0_r11_c0, w ∈ lw_tbl := k_memAt [235, 236, 237, 238, 311, 312, 313, 314, 90, 91] (by decide +kernel)
def wsL_law0_r11_c1 : List Cond := [Cond.methodLink RX0 33 Lib.Math.min.name, Cond.methodLink RX0 22 yX0_slotAt, Cond.instanceMethod yX0_slotAt, Cond.selects RX0 yX0_slotAt yX0_slotAt, Cond.code yX0_slotAt cX0_slotAt 2 (some (.object "CrochetRounds$Piece")), Cond.methodLink RX0 26 yX4_takeOver, Cond.instanceMethod yX4_takeOver, Cond.selects RX4 yX4_takeOver yX4_takeOver, Cond.code yX4_takeOver cX4_takeOver 3 none, Cond.fieldLink RX4 33 "CrochetRounds$Piece" "spiral" "Z"]
set_option maxRecDepth 20000 in
theorem wsL_law0_r11_c1_in : ∀ w ∈ wsL_law0_r11_c1, w ∈ lw_tbl := k_memAt [329, 315, 317, 1, 318, 319, 320, 321, 322, 65] (by decide +kernel)
def wsL_law0_r11_c2 : List Cond := [Cond.methodLink RX4 37 yX2_take, Cond.instanceMethod yX2_take, Cond.selects RX2 yX2_take yX2_take, Cond.code yX2_take cX2_take 5 none]
set_option maxRecDepth 20000 in
theorem wsL_law0_r11_c2_in : ∀ w ∈ wsL_law0_r11_c2, w ∈ lw_tbl := k_memAt [323, 324, 325, 326] (by decide +kernel)
theorem wsL_law0_r11_in : ∀ w ∈ wsL_law0_r11, w ∈ lw_tbl := k_memApp wsL_law0_r11_c0_in (k_memApp wsL_law0_r11_c1_in wsL_law0_r11_c2_in)
def wsL_law0_r12_c0 : List Cond := [Cond.methodLink RX2 13 yX2_at, Cond.methodLink RX2 17 yX2_put, Cond.methodLink RL 74 yL_yarns, Cond.static yL_yarns, Cond.codeWith yL_yarns cL_yarns 4 (some .int) [(0, 6, 7, 15)], Cond.methodLink RL 38 yX6_setYarn, Cond.instanceMethod yX6_setYarn, Cond.selects RX6 yX6_setYarn yX6_setYarn, Cond.code yX6_setYarn cX6_setYarn 4 (some .int), Cond.methodLink RL 78 yX6_setSpiral]
set_option maxRecDepth 20000 in
theorem wsL_law0_r12_c0_in : ∀ w ∈ wsL_law0_r12_c0, w ∈ lw_tbl := k_memAt [327, 328, 332, 333, 334, 335, 336, 337, 338, 340] (by decide +kernel)
def wsL_law0_r12_c1 : List Cond := [Cond.instanceMethod yX6_setSpiral, Cond.selects RX6 yX6_setSpiral yX6_setSpiral, Cond.code yX6_setSpiral cX6_setSpiral 3 (some .boolean), Cond.methodLink RL 82 yL_rips, Cond.static yL_rips, Cond.codeWith yL_rips cL_rips 3 (some .int) [(0, 5, 6, 15), (0, 5, 11, 20)], Cond.classLink RL 20 "java/lang/IllegalStateException", Cond.methodLink RL 35 yX6_rip, Cond.instanceMethod yX6_rip, Cond.selects RX6 yX6_rip yX6_rip]
set_option maxRecDepth 20000 in
theorem wsL_law0_r12_c1_in : ∀ w ∈ wsL_law0_r12_c1, w ∈ lw_tbl := k_memAt [341, 342, 343, 344, 345, 346, 347, 348, 349, 350] (by decide +kernel)
def wsL_law0_r12_c2 : List Cond := [Cond.code yX6_rip cX6_rip 2 (some .int), Cond.methodLink RX6 111 yX6_checkState, Cond.static yX6_checkState, Cond.code yX6_checkState cX6_checkState 1 none]
set_option maxRecDepth 20000 in
theorem wsL_law0_r12_c2_in : ∀ w ∈ wsL_law0_r12_c2, w ∈ lw_tbl := k_memAt [351, 352, 353, 354] (by decide +kernel)
theorem wsL_law0_r12_in : ∀ w ∈ wsL_law0_r12, w ∈ lw_tbl := k_memApp wsL_law0_r12_c0_in (k_memApp wsL_law0_r12_c1_in wsL_law0_r12_c2_in)
