set_option maxRecDepth 20000 in
theorem ggL_law_X5_told : GoodIn wsL_law wsX5_told := goodIn_r _ [371, 29, 372, 373, 374, 28, 375, 275, 390, 391, 392, 393, 394, 429, 430, 431, 432, 433] (by decide +kernel) (by decide +kernel)
set_option maxRecDepth 20000 in
theorem gL_law_X5_told : GoodIn wsL_law (wsV RL 78 RX5 yX5_told wsX5_told) := goodIn_app (goodIn_of _ (by decide +kernel)) ggL_law_X5_told
set_option maxRecDepth 20000 in
theorem ggL_law_X6_told : GoodIn wsL_law wsX6_told := goodIn_r _ [379, 112, 89, 395, 396, 397, 398, 399, 400, 401, 402, 403, 404, 405, 406, 407, 408, 409, 410, 411, 412, 413, 414, 415, 416, 417] (by decide +kernel) (by decide +kernel)
set_option maxRecDepth 20000 in
theorem gL_law_X6_told : GoodIn wsL_law (wsV RL 82 RX6 yX6_told wsX6_told) := goodIn_app (goodIn_of _ (by decide +kernel)) ggL_law_X6_told
set_option maxRecDepth 20000 in
theorem ggL_law_X5_polynomial : GoodIn wsL_law wsX5_polynomial := goodIn_r _ [383, 384] (by decide +kernel) (by decide +kernel)
set_option maxRecDepth 20000 in
theorem gL_law_X5_polynomial : GoodIn wsL_law (wsV RL 83 RX5 yX5_polynomial wsX5_polynomial) := goodIn_app (goodIn_of _ (by decide +kernel)) ggL_law_X5_polynomial
set_option maxRecDepth 20000 in
theorem ggL_law_X6_polynomial : GoodIn wsL_law wsX6_polynomial := goodIn_r _ [388, 112, 389, 395, 396, 397, 398, 399, 400, 401, 402, 403, 404, 405, 406, 407, 408, 409, 410, 411, 412, 413, 414, 415, 416, 417] (by decide +kernel) (by decide +kernel)
set_option maxRecDepth 20000 in
theorem gL_law_X6_polynomial : GoodIn wsL_law (wsV RL 86 RX6 yX6_polynomial wsX6_polynomial) := goodIn_app (goodIn_of _ (by decide +kernel)) ggL_law_X6_polynomial
