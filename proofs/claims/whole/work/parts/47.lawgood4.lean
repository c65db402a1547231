set_option maxRecDepth 20000 in
theorem ggL_law_X6_plant : GoodIn wsL_law wsX6_plant := goodIn_r _ [349, 112, 84, 185, 182, 395, 396, 397, 398, 399, 400, 401, 402, 403, 404, 405, 406, 407, 408, 409, 410, 411, 412, 413, 414, 415, 416, 417] (by decide +kernel) (by decide +kernel)
set_option maxRecDepth 20000 in
theorem gL_law_X6_plant : GoodIn wsL_law (wsV RL 66 RX6 yX6_plant wsX6_plant) := goodIn_app (goodIn_of _ (by decide +kernel)) ggL_law_X6_plant
set_option maxRecDepth 20000 in
theorem ggL_law_X5_valid : GoodIn wsL_law wsX5_valid := goodIn_r _ [353, 29, 390, 391, 392, 393, 394, 429, 430, 431, 432, 433] (by decide +kernel) (by decide +kernel)
set_option maxRecDepth 20000 in
theorem gL_law_X5_valid : GoodIn wsL_law (wsV RL 67 RX5 yX5_valid wsX5_valid) := goodIn_app (goodIn_of _ (by decide +kernel)) ggL_law_X5_valid
set_option maxRecDepth 20000 in
theorem ggL_law_X6_valid : GoodIn wsL_law wsX6_valid := goodIn_r _ [357, 112, 296, 395, 396, 397, 398, 399, 400, 401, 402, 403, 404, 405, 406, 407, 408, 409, 410, 411, 412, 413, 414, 415, 416, 417] (by decide +kernel) (by decide +kernel)
set_option maxRecDepth 20000 in
theorem gL_law_X6_valid : GoodIn wsL_law (wsV RL 70 RX6 yX6_valid wsX6_valid) := goodIn_app (goodIn_of _ (by decide +kernel)) ggL_law_X6_valid
set_option maxRecDepth 20000 in
theorem ggL_law_X5_react : GoodIn wsL_law wsX5_react := goodIn_r _ [361, 236, 237, 362, 29, 390, 391, 392, 393, 394, 429, 430, 431, 432, 433] (by decide +kernel) (by decide +kernel)
set_option maxRecDepth 20000 in
theorem gL_law_X5_react : GoodIn wsL_law (wsV RL 73 RX5 yX5_react wsX5_react) := goodIn_app (goodIn_of _ (by decide +kernel)) ggL_law_X5_react
set_option maxRecDepth 20000 in
theorem ggL_law_X6_react : GoodIn wsL_law wsX6_react := goodIn_r _ [366, 112, 297, 300, 298, 367, 395, 396, 397, 398, 399, 400, 401, 402, 403, 404, 405, 406, 407, 408, 409, 410, 411, 412, 413, 414, 415, 416, 417] (by decide +kernel) (by decide +kernel)
set_option maxRecDepth 20000 in
theorem gL_law_X6_react : GoodIn wsL_law (wsV RL 77 RX6 yX6_react wsX6_react) := goodIn_app (goodIn_of _ (by decide +kernel)) ggL_law_X6_react
