set_option maxRecDepth 20000 in
theorem in_wsL_law_r1 : ∀ w ∈ wsL_law_r1, w ∈ lw_tbl := fun w h => (goodIn_r (big := lw_tbl) wsL_law_r1 [26, 27, 13, 438, 439, 19, 597, 596, 355, 356, 12, 357, 28, 29, 30, 31, 32, 33, 68, 69, 15, 160, 114, 115] (by decide +kernel) (by decide +kernel) w h).1
set_option maxRecDepth 20000 in
theorem in_wsL_law_r2 : ∀ w ∈ wsL_law_r2, w ∈ lw_tbl := fun w h => (goodIn_r (big := lw_tbl) wsL_law_r2 [17, 161, 135, 136, 18, 162, 34, 35, 14, 36, 37, 38, 39, 66, 67, 40, 41, 42, 43, 44, 45, 46, 47, 48] (by decide +kernel) (by decide +kernel) w h).1
set_option maxRecDepth 20000 in
theorem in_wsL_law_r3 : ∀ w ∈ wsL_law_r3, w ∈ lw_tbl := fun w h => (goodIn_r (big := lw_tbl) wsL_law_r3 [50, 70, 71, 72, 73, 74, 75, 16, 91, 92, 90, 77, 78, 79, 89, 80, 116, 117, 118, 119, 120, 123, 125, 122] (by decide +kernel) (by decide +kernel) w h).1
set_option maxRecDepth 20000 in
theorem in_wsL_law_r4 : ∀ w ∈ wsL_law_r4, w ∈ lw_tbl := fun w h => (goodIn_r (big := lw_tbl) wsL_law_r4 [138, 139, 140, 159, 141, 146, 440, 441, 442, 443, 451, 453, 455, 459, 460, 462, 515, 465, 446, 447, 444, 448, 449, 176] (by decide +kernel) (by decide +kernel) w h).1
set_option maxRecDepth 20000 in
theorem in_wsL_law_r5 : ∀ w ∈ wsL_law_r5, w ∈ lw_tbl := fun w h => (goodIn_r (big := lw_tbl) wsL_law_r5 [177, 178, 179, 180, 181, 182, 183, 184, 185, 186, 187, 82, 520, 521, 522, 523, 445, 450, 188, 189, 190, 191, 192, 193] (by decide +kernel) (by decide +kernel) w h).1
