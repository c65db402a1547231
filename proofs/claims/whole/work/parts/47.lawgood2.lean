set_option maxRecDepth 20000 in
theorem ggL_law_X6_thrown : GoodIn wsL_law wsX6_thrown := goodIn_r _ [221, 112, 395, 396, 397, 398, 399, 400, 401, 402, 403, 404, 405, 406, 407, 408, 409, 410, 411, 412, 413, 414, 415, 416, 417] (by decide +kernel) (by decide +kernel)
set_option maxRecDepth 20000 in
theorem gL_law_X6_thrown : GoodIn wsL_law (wsV RL 41 RX6 yX6_thrown wsX6_thrown) := goodIn_app (goodIn_of _ (by decide +kernel)) ggL_law_X6_thrown
set_option maxRecDepth 20000 in
theorem ggL_law_X5_check : GoodIn wsL_law wsX5_check := goodIn_r _ [225, 25, 118, 119, 2, 120, 121, 226, 227, 228, 24, 229, 69, 230, 231, 104, 105, 55, 106, 107, 63, 232, 233, 234, 235, 29, 236, 237, 238, 239, 240, 241, 242, 243, 244, 245, 71, 246, 169, 170, 32, 171, 43, 247, 248, 249, 250, 151, 152, 153, 154, 155, 156, 157, 158, 251, 160, 161, 162, 45, 46, 163, 164, 165, 166, 44, 167, 252, 253, 254, 255, 256, 257, 258, 259, 70, 260, 131, 132, 133, 47, 134, 135, 136, 137, 261, 262, 263, 264, 139, 140, 141, 265, 266, 267, 28, 268, 76, 269, 270, 271, 272, 273, 274, 275, 77, 276, 277, 278, 279, 280, 281, 282, 283, 284, 285, 286, 287, 288, 289, 290, 390, 391, 392, 393, 394, 425, 426, 427, 428, 440, 441, 434, 435, 436, 437, 438, 439, 429, 430, 431, 432, 433] (by decide +kernel) (by decide +kernel)
set_option maxRecDepth 20000 in
theorem gL_law_X5_check : GoodIn wsL_law (wsV RL 45 RX5 yX5_check wsX5_check) := goodIn_app (goodIn_of _ (by decide +kernel)) ggL_law_X5_check
set_option maxRecDepth 20000 in
theorem ggL_law_X6_check : GoodIn wsL_law wsX6_check := goodIn_r _ [294, 112, 180, 295, 85, 89, 296, 297, 298, 299, 87, 300, 301, 302, 303, 5, 304, 91, 94, 305, 93, 86, 186, 187, 188, 189, 190, 191, 192, 193, 90, 194, 195, 196, 197, 198, 199, 200, 201, 306, 307, 308, 395, 396, 397, 398, 399, 400, 401, 402, 403, 404, 405, 406, 407, 408, 409, 410, 411, 412, 413, 414, 415, 416, 417] (by decide +kernel) (by decide +kernel)
set_option maxRecDepth 20000 in
theorem gL_law_X6_check : GoodIn wsL_law (wsV RL 49 RX6 yX6_check wsX6_check) := goodIn_app (goodIn_of _ (by decide +kernel)) ggL_law_X6_check
set_option maxRecDepth 20000 in
theorem ggL_law_X5_counter : GoodIn wsL_law wsX5_counter := goodIn_r _ [312, 21, 390, 391, 392, 393, 394, 418, 419, 420, 421, 422, 423, 424] (by decide +kernel) (by decide +kernel)
set_option maxRecDepth 20000 in
theorem gL_law_X5_counter : GoodIn wsL_law (wsV RL 50 RX5 yX5_counter wsX5_counter) := goodIn_app (goodIn_of _ (by decide +kernel)) ggL_law_X5_counter
set_option maxRecDepth 20000 in
theorem ggL_law_X6_counter : GoodIn wsL_law wsX6_counter := goodIn_r _ [316, 112, 181, 395, 396, 397, 398, 399, 400, 401, 402, 403, 404, 405, 406, 407, 408, 409, 410, 411, 412, 413, 414, 415, 416, 417] (by decide +kernel) (by decide +kernel)
set_option maxRecDepth 20000 in
theorem gL_law_X6_counter : GoodIn wsL_law (wsV RL 53 RX6 yX6_counter wsX6_counter) := goodIn_app (goodIn_of _ (by decide +kernel)) ggL_law_X6_counter
