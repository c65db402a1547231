set_option maxRecDepth 20000 in
theorem ggL_law_X6_octet : GoodIn wsL_law wsX6_octet := goodIn_r _ [111, 112, 113, 82, 395, 396, 397, 398, 399, 400, 401, 402, 403, 404, 405, 406, 407, 408, 409, 410, 411, 412, 413, 414, 415, 416, 417] (by decide +kernel) (by decide +kernel)
set_option maxRecDepth 20000 in
theorem gL_law_X6_octet : GoodIn wsL_law (wsV RL 31 RX6 yX6_octet wsX6_octet) := goodIn_app (goodIn_of _ (by decide +kernel)) ggL_law_X6_octet
set_option maxRecDepth 20000 in
theorem ggL_law_X5_protect : GoodIn wsL_law wsX5_protect := goodIn_r _ [117, 21, 118, 119, 2, 120, 121, 122, 123, 124, 20, 125, 58, 126, 127, 57, 56, 128, 129, 130, 131, 132, 32, 133, 47, 134, 135, 136, 137, 138, 139, 140, 55, 141, 107, 142, 143, 144, 145, 146, 104, 105, 106, 63, 147, 148, 149, 150, 151, 152, 153, 154, 155, 156, 157, 158, 159, 160, 161, 162, 45, 46, 163, 164, 165, 166, 43, 44, 167, 168, 169, 170, 171, 172, 173, 174, 175, 390, 391, 392, 393, 394, 418, 419, 420, 421, 422, 423, 424, 434, 435, 436, 437, 438, 439, 440, 441] (by decide +kernel) (by decide +kernel)
set_option maxRecDepth 20000 in
theorem gL_law_X5_protect : GoodIn wsL_law (wsV RL 32 RX5 yX5_protect wsX5_protect) := goodIn_app (goodIn_of _ (by decide +kernel)) ggL_law_X5_protect
set_option maxRecDepth 20000 in
theorem ggL_law_X6_protect : GoodIn wsL_law wsX6_protect := goodIn_r _ [179, 112, 180, 181, 182, 93, 183, 94, 113, 83, 82, 91, 184, 84, 185, 186, 187, 188, 5, 189, 190, 191, 192, 193, 90, 194, 195, 196, 197, 198, 199, 200, 201, 395, 396, 397, 398, 399, 400, 401, 402, 403, 404, 405, 406, 407, 408, 409, 410, 411, 412, 413, 414, 415, 416, 417] (by decide +kernel) (by decide +kernel)
set_option maxRecDepth 20000 in
theorem gL_law_X6_protect : GoodIn wsL_law (wsV RL 36 RX6 yX6_protect wsX6_protect) := goodIn_app (goodIn_of _ (by decide +kernel)) ggL_law_X6_protect
set_option maxRecDepth 20000 in
theorem ggL_law_L_out : GoodIn wsL_law wsL_out := goodIn_r _ [204, 205, 206, 207, 2, 208, 21, 209, 210, 211, 212, 156, 157, 55, 158, 107, 63, 213, 152, 153, 154, 155, 390, 391, 392, 393, 394, 418, 419, 420, 421, 422, 423, 424, 442, 443, 444, 445, 446, 447, 440, 441] (by decide +kernel) (by decide +kernel)
set_option maxRecDepth 20000 in
theorem gL_law_L_out : GoodIn wsL_law (va_wsS RL 37 yL_out wsL_out) := goodIn_app (goodIn_of _ (by decide +kernel)) ggL_law_L_out
set_option maxRecDepth 20000 in
theorem ggL_law_X6_out : GoodIn wsL_law wsX6_out := goodIn_r _ [217, 183, 112, 83, 395, 396, 397, 398, 399, 400, 401, 402, 403, 404, 405, 406, 407, 408, 409, 410, 411, 412, 413, 414, 415, 416, 417] (by decide +kernel) (by decide +kernel)
set_option maxRecDepth 20000 in
theorem gL_law_X6_out : GoodIn wsL_law (wsV RL 40 RX6 yX6_out wsX6_out) := goodIn_app (goodIn_of _ (by decide +kernel)) ggL_law_X6_out
