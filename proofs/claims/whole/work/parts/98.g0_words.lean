set_option maxRecDepth 20000 in
theorem wsL_law_g1 : GoodIn lw_tbl wsL_law0_r1 := goodIn_p _ [72, 75] rfl (by decide +kernel)
set_option maxRecDepth 20000 in
theorem wsL_law_g2 : GoodIn lw_tbl wsL_law0_r2 := goodIn_p _ [80, 621, 626] rfl (by decide +kernel)
set_option maxRecDepth 20000 in
theorem wsL_law_g3 : GoodIn lw_tbl wsL_law0_r3 := goodIn_p _ [630, 634, 647] rfl (by decide +kernel)
set_option maxRecDepth 20000 in
theorem wsL_law_g4 : GoodIn lw_tbl wsL_law0_r4 := goodIn_p _ [] rfl (by decide +kernel)
set_option maxRecDepth 20000 in
theorem wsL_law_g5 : GoodIn lw_tbl wsL_law0_r5 := goodIn_p _ [684, 700] rfl (by decide +kernel)
set_option maxRecDepth 20000 in
theorem wsL_law_g6 : GoodIn lw_tbl wsL_law0_r6 := goodIn_p _ [712] rfl (by decide +kernel)
set_option maxRecDepth 20000 in
theorem wsL_law_g7 : GoodIn lw_tbl wsL_law0_r7 := goodIn_p _ [] rfl (by decide +kernel)
set_option maxRecDepth 20000 in
theorem wsL_law_g8 : GoodIn lw_tbl wsL_law0_r8 := goodIn_p _ [142, 804, 808, 800, 216] rfl (by decide +kernel)
set_option maxRecDepth 20000 in
theorem wsL_law_g9 : GoodIn lw_tbl wsL_law0_r9 := goodIn_p _ [812, 224, 227, 248, 251] rfl (by decide +kernel)
set_option maxRecDepth 20000 in
theorem wsL_law_g10 : GoodIn lw_tbl wsL_law0_r10 := goodIn_p _ [254, 257, 262, 816, 819, 824] rfl (by decide +kernel)
set_option maxRecDepth 20000 in
theorem wsL_law_g11 : GoodIn lw_tbl wsL_law0_r11 := goodIn_p _ [828, 269, 832, 276] rfl (by decide +kernel)
set_option maxRecDepth 20000 in
theorem wsL_law_g12 : GoodIn lw_tbl wsL_law0_r12 := goodIn_p _ [836, 283, 286, 289, 294, 297] rfl (by decide +kernel)
set_option maxRecDepth 20000 in
theorem wsL_law_g13 : GoodIn lw_tbl wsL_law0_r13 := goodIn_p _ [301, 305, 311, 315, 318, 321] rfl (by decide +kernel)
set_option maxRecDepth 20000 in
theorem wsL_law_g14 : GoodIn lw_tbl wsL_law0_r14 := goodIn_p _ [326, 329, 332, 335, 339] rfl (by decide +kernel)
set_option maxRecDepth 20000 in
theorem wsL_law_g15 : GoodIn lw_tbl wsL_law0_r15 := goodIn_p _ [348, 352, 357, 373, 840, 383] rfl (by decide +kernel)
set_option maxRecDepth 20000 in
theorem wsL_law_g16 : GoodIn lw_tbl wsL_law0_r16 := goodIn_p _ [403, 407, 411, 414, 417, 420] rfl (by decide +kernel)
set_option maxRecDepth 20000 in
theorem wsL_law_g17 : GoodIn lw_tbl wsL_law0_r17 := goodIn_p _ [423, 427, 430, 433, 437, 440] rfl (by decide +kernel)
set_option maxRecDepth 20000 in
theorem wsL_law_g18 : GoodIn lw_tbl wsL_law0_r18 := goodIn_p _ [444, 449, 453, 457, 460, 465] rfl (by decide +kernel)
set_option maxRecDepth 20000 in
theorem wsL_law_g19 : GoodIn lw_tbl wsL_law0_r19 := goodIn_p _ [470, 475, 479, 482, 487] rfl (by decide +kernel)
set_option maxRecDepth 20000 in
theorem wsL_law_g20 : GoodIn lw_tbl wsL_law0_r20 := goodIn_p _ [492, 496, 500, 504, 508, 511, 514] rfl (by decide +kernel)
set_option maxRecDepth 20000 in
theorem wsL_law_g21 : GoodIn lw_tbl wsL_law0_r21 := goodIn_p _ [518, 521, 525, 528, 532, 535] rfl (by decide +kernel)
set_option maxRecDepth 20000 in
theorem wsL_law_g22 : GoodIn lw_tbl wsL_law0_r22 := goodIn_p _ [541, 545, 549, 552, 555, 559, 562] rfl (by decide +kernel)
set_option maxRecDepth 20000 in
theorem wsL_law_g23 : GoodIn lw_tbl wsL_law0_r23 := goodIn_p _ [567, 570, 574, 580, 586, 590] rfl (by decide +kernel)
set_option maxRecDepth 20000 in
theorem wsL_law_g24 : GoodIn lw_tbl wsL_law0_r24 := goodIn_p _ [844, 848, 854] rfl (by decide +kernel)
set_option maxRecDepth 20000 in
theorem wsL_law_g25 : GoodIn lw_tbl wsL_law0_r25 := goodIn_p _ [857, 864, 868, 872] rfl (by decide +kernel)
set_option maxRecDepth 20000 in
theorem wsL_law_g26 : GoodIn lw_tbl wsL_law0_r26 := goodIn_p _ [875, 880, 885, 892, 895] rfl (by decide +kernel)
set_option maxRecDepth 20000 in
theorem wsL_law_g27 : GoodIn lw_tbl wsL_law0_r27 := goodIn_p _ [903, 908, 912, 916, 919, 923] rfl (by decide +kernel)
set_option maxRecDepth 20000 in
theorem wsL_law_g28 : GoodIn lw_tbl wsL_law0_r28 := goodIn_p _ [926, 930, 934, 128, 945] rfl (by decide +kernel)
set_option maxRecDepth 20000 in
theorem wsL_law_g29 : GoodIn lw_tbl wsL_law0_r29 := goodIn_p _ [599, 950, 607, 954] rfl (by decide +kernel)
set_option maxRecDepth 20000 in
theorem wsL_law_g30 : GoodIn lw_tbl wsL_law0_r30 := goodIn_p _ [615, 958, 133, 962] rfl (by decide +kernel)
