set_option maxRecDepth 20000 in
theorem in_wsL_law_r6 : ∀ w ∈ wsL_law_r6, w ∈ lw_tbl := fun w h => (goodIn_r (big := lw_tbl) wsL_law_r6 [194, 195, 196, 197, 198, 199, 94, 98, 96, 97, 200, 201, 202, 203, 204, 205, 20, 206, 207, 208, 209, 210, 211, 212] (by decide +kernel) (by decide +kernel) w h).1
set_option maxRecDepth 20000 in
theorem in_wsL_law_r7 : ∀ w ∈ wsL_law_r7, w ∈ lw_tbl := fun w h => (goodIn_r (big := lw_tbl) wsL_law_r7 [213, 214, 215, 216, 217, 218, 219, 220, 221, 222, 223, 224, 225, 226, 227, 228, 229, 230, 231, 232, 234, 0, 235, 236] (by decide +kernel) (by decide +kernel) w h).1
set_option maxRecDepth 20000 in
theorem in_wsL_law_r8 : ∀ w ∈ wsL_law_r8, w ∈ lw_tbl := fun w h => (goodIn_r (big := lw_tbl) wsL_law_r8 [237, 238, 239, 240, 241, 242, 243, 244, 524, 525, 526, 527, 528, 454, 457, 452, 545, 456, 529, 531, 8, 532, 533, 535] (by decide +kernel) (by decide +kernel) w h).1
set_option maxRecDepth 20000 in
theorem in_wsL_law_r9 : ∀ w ∈ wsL_law_r9, w ∈ lw_tbl := fun w h => (goodIn_r (big := lw_tbl) wsL_law_r9 [9, 536, 537, 538, 539, 540, 541, 543, 10, 544, 358, 359, 360, 362, 363, 364, 365, 367, 368, 25, 366, 437, 546, 547] (by decide +kernel) (by decide +kernel) w h).1
set_option maxRecDepth 20000 in
theorem in_wsL_law_r10 : ∀ w ∈ wsL_law_r10, w ∈ lw_tbl := fun w h => (goodIn_r (big := lw_tbl) wsL_law_r10 [548, 549, 516, 517, 518, 519, 245, 246, 247, 248, 249, 250, 251, 252, 124, 253, 254, 256, 1, 257, 163, 164, 258, 259] (by decide +kernel) (by decide +kernel) w h).1
