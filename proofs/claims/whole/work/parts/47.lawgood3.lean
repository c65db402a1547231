set_option maxRecDepth 20000 in
theorem ggL_law_X5_state : GoodIn wsL_law wsX5_state := goodIn_r _ [320, 29, 390, 391, 392, 393, 394, 429, 430, 431, 432, 433] (by decide +kernel) (by decide +kernel)
set_option maxRecDepth 20000 in
theorem gL_law_X5_state : GoodIn wsL_law (wsV RL 54 RX5 yX5_state wsX5_state) := goodIn_app (goodIn_of _ (by decide +kernel)) ggL_law_X5_state
set_option maxRecDepth 20000 in
theorem ggL_law_X6_state : GoodIn wsL_law wsX6_state := goodIn_r _ [324, 112, 300, 395, 396, 397, 398, 399, 400, 401, 402, 403, 404, 405, 406, 407, 408, 409, 410, 411, 412, 413, 414, 415, 416, 417] (by decide +kernel) (by decide +kernel)
set_option maxRecDepth 20000 in
theorem gL_law_X6_state : GoodIn wsL_law (wsV RL 57 RX6 yX6_state wsX6_state) := goodIn_app (goodIn_of _ (by decide +kernel)) ggL_law_X6_state
set_option maxRecDepth 20000 in
theorem ggL_law_X5_span : GoodIn wsL_law wsX5_span := goodIn_r _ [328, 29, 329, 287, 288, 28, 289, 269, 76, 390, 391, 392, 393, 394, 429, 430, 431, 432, 433] (by decide +kernel) (by decide +kernel)
set_option maxRecDepth 20000 in
theorem gL_law_X5_span : GoodIn wsL_law (wsV RL 58 RX5 yX5_span wsX5_span) := goodIn_app (goodIn_of _ (by decide +kernel)) ggL_law_X5_span
set_option maxRecDepth 20000 in
theorem ggL_law_X6_span : GoodIn wsL_law wsX6_span := goodIn_r _ [333, 112, 299, 87, 395, 396, 397, 398, 399, 400, 401, 402, 403, 404, 405, 406, 407, 408, 409, 410, 411, 412, 413, 414, 415, 416, 417] (by decide +kernel) (by decide +kernel)
set_option maxRecDepth 20000 in
theorem gL_law_X6_span : GoodIn wsL_law (wsV RL 61 RX6 yX6_span wsX6_span) := goodIn_app (goodIn_of _ (by decide +kernel)) ggL_law_X6_span
set_option maxRecDepth 20000 in
theorem ggL_law_X5_plant : GoodIn wsL_law wsX5_plant := goodIn_r _ [337, 21, 338, 339, 340, 20, 341, 128, 129, 342, 343, 344, 345, 127, 390, 391, 392, 393, 394, 418, 419, 420, 421, 422, 423, 424] (by decide +kernel) (by decide +kernel)
set_option maxRecDepth 20000 in
theorem gL_law_X5_plant : GoodIn wsL_law (wsV RL 62 RX5 yX5_plant wsX5_plant) := goodIn_app (goodIn_of _ (by decide +kernel)) ggL_law_X5_plant
