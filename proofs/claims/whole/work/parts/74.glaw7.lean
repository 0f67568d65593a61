set_option maxRecDepth 20000 in
theorem ggL_law_X5_column : GoodIn wsL_law wsX5_column := goodIn_r _ [422, 122, 376, 95, 97, 96, 98, 123, 124, 125, 5, 126, 509, 510, 511, 512, 513, 514, 515, 516, 517, 518, 519, 520, 521, 522, 523, 524, 525, 526, 527, 528, 529, 530, 531, 532, 533, 534, 535, 536, 537, 538, 539, 540, 541, 542, 543, 544, 545, 546, 547, 548, 549, 550, 551, 552, 553, 554] (by decide +kernel) (by decide +kernel)
set_option maxRecDepth 20000 in
theorem gL_law_X5_column : GoodIn wsL_law (wsV RL 96 RX5 yX5_column wsX5_column) := goodIn_app (goodIn_of _ (by decide +kernel)) ggL_law_X5_column
set_option maxRecDepth 20000 in
theorem ggL_law_L_where : GoodIn wsL_law wsL_where := goodIn_ca (goodIn_r _ [425, 223, 426, 427, 428, 2, 429, 32, 228, 229, 230, 231, 232, 233, 23, 430, 431, 432, 31, 433, 336, 64, 63, 499, 500, 501, 502, 503, 504, 505, 506, 507, 508, 557, 558, 559, 560, 561, 562, 563, 564, 565, 571, 572, 573, 574, 575, 576, 577, 578] (by decide +kernel) (by decide +kernel)) (goodIn_sub (fun _ h => List.mem_append_right _ h) (by decide +kernel))
set_option maxRecDepth 20000 in
theorem gL_law_L_where : GoodIn wsL_law (va_wsS RL 97 yL_where wsL_where) := goodIn_app (goodIn_of _ (by decide +kernel)) ggL_law_L_where
set_option maxRecDepth 20000 in
theorem ggL_law_X5_where : GoodIn wsL_law wsX5_where := goodIn_r _ [437, 376, 97, 95, 96, 242, 243, 244, 5, 245, 195, 122, 509, 510, 511, 512, 513, 514, 515, 516, 517, 518, 519, 520, 521, 522, 523, 524, 525, 526, 527, 528, 529, 530, 531, 532, 533, 534, 535, 536, 537, 538, 539, 540, 541, 542, 543, 544, 545, 546, 547, 548, 549, 550, 551, 552, 553, 554] (by decide +kernel) (by decide +kernel)
set_option maxRecDepth 20000 in
theorem gL_law_X5_where : GoodIn wsL_law (wsV RL 99 RX5 yX5_where wsX5_where) := goodIn_app (goodIn_of _ (by decide +kernel)) ggL_law_X5_where
set_option maxRecDepth 20000 in
theorem ggL_law_L_guide : GoodIn wsL_law wsL_guide := goodIn_ca (goodIn_ca (goodIn_r _ [440, 223, 109, 441, 442, 443, 2, 444, 232, 233, 114, 115, 32, 445, 446, 447, 31, 448, 64, 354, 355, 356, 357, 335, 336, 358, 359, 348, 360, 361, 362, 363, 364, 449, 416, 417, 418, 63, 450, 412, 413, 414, 451, 452, 453, 454, 499, 500, 501, 502, 503, 504, 505, 506, 507, 508, 571, 572, 573, 574, 575, 576, 577, 578] (by decide +kernel) (by decide +kernel)) (goodIn_sub (fun _ h => List.mem_append_right _ h) (by decide +kernel))) (goodIn_sub (fun _ h => List.mem_append_left _ (List.mem_append_right _ h)) (by decide +kernel))
set_option maxRecDepth 20000 in
theorem gL_law_L_guide : GoodIn wsL_law (va_wsS RL 100 yL_guide wsL_guide) := goodIn_app (goodIn_of _ (by decide +kernel)) ggL_law_L_guide
