set_option maxRecDepth 20000 in
theorem in_wsL_law_r11 : ∀ w ∈ wsL_law_r11, w ∈ lw_tbl := fun w h => (goodIn_r (big := lw_tbl) wsL_law_r11 [260, 261, 262, 264, 2, 265, 266, 267, 268, 269, 270, 271, 272, 274, 3, 275, 276, 278, 4, 279, 280, 281, 282, 283] (by decide +kernel) (by decide +kernel) w h).1
set_option maxRecDepth 20000 in
theorem in_wsL_law_r12 : ∀ w ∈ wsL_law_r12, w ∈ lw_tbl := fun w h => (goodIn_r (big := lw_tbl) wsL_law_r12 [284, 285, 286, 287, 288, 142, 289, 290, 20, 291, 143, 145, 293, 294, 295, 297, 5, 298, 299, 301, 6, 302, 303, 304] (by decide +kernel) (by decide +kernel) w h).1
set_option maxRecDepth 20000 in
theorem in_wsL_law_r13 : ∀ w ∈ wsL_law_r13, w ∈ lw_tbl := fun w h => (goodIn_r (big := lw_tbl) wsL_law_r13 [305, 306, 307, 558, 559, 560, 561, 458, 464, 466, 467, 461, 463, 562, 564, 11, 565, 566, 567, 568, 569, 308, 309, 310] (by decide +kernel) (by decide +kernel) w h).1
set_option maxRecDepth 20000 in
theorem in_wsL_law_r14 : ∀ w ∈ wsL_law_r14, w ∈ lw_tbl := fun w h => (goodIn_r (big := lw_tbl) wsL_law_r14 [311, 550, 551, 552, 553, 312, 313, 314, 315, 570, 571, 572, 573, 316, 317, 318, 319, 320, 574, 575, 576, 577, 321, 322] (by decide +kernel) (by decide +kernel) w h).1
set_option maxRecDepth 20000 in
theorem in_wsL_law_r15 : ∀ w ∈ wsL_law_r15, w ∈ lw_tbl := fun w h => (goodIn_r (big := lw_tbl) wsL_law_r15 [323, 324, 325, 326, 327, 328, 329, 330, 331, 332, 554, 555, 556, 557, 333, 334, 335, 336, 578, 579, 580, 581, 337, 338] (by decide +kernel) (by decide +kernel) w h).1
