set_option maxRecDepth 20000 in
theorem ggL_law_X5_column : GoodIn wsL_law wsX5_column := goodIn_r _ [426, 122, 380, 95, 97, 96, 98, 123, 124, 125, 5, 126, 513, 514, 515, 516, 517, 518, 519, 520, 521, 522, 523, 524, 525, 526, 527, 528, 529, 530, 531, 532, 533, 534, 535, 536, 537, 538, 539, 540, 541, 542, 543, 544, 545, 546, 547, 548, 549, 550, 551, 552, 553, 554, 555, 556, 557, 558] (by decide +kernel) (by decide +kernel)
set_option maxRecDepth 20000 in
theorem gL_law_X5_column : GoodIn wsL_law (wsV RL 96 RX5 yX5_column wsX5_column) := goodIn_app (goodIn_of _ (by decide +kernel)) ggL_law_X5_column
set_option maxRecDepth 20000 in
theorem ggL_law_L_where : GoodIn wsL_law wsL_where := goodIn_ca (goodIn_r _ [429, 223, 430, 431, 432, 2, 433, 32, 228, 229, 230, 231, 232, 233, 23, 434, 435, 436, 31, 437, 340, 64, 63, 503, 504, 505, 506, 507, 508, 509, 510, 511, 512, 561, 562, 563, 564, 565, 566, 567, 568, 569, 575, 576, 577, 578, 579, 580, 581, 582] (by decide +kernel) (by decide +kernel)) (goodIn_sub (fun _ h => List.mem_append_right _ h) (by decide +kernel))
set_option maxRecDepth 20000 in
theorem gL_law_L_where : GoodIn wsL_law (va_wsS RL 97 yL_where wsL_where) := goodIn_app (goodIn_of _ (by decide +kernel)) ggL_law_L_where
set_option maxRecDepth 20000 in
theorem ggL_law_X5_where : GoodIn wsL_law wsX5_where := goodIn_r _ [441, 380, 97, 95, 96, 242, 243, 244, 5, 245, 195, 122, 513, 514, 515, 516, 517, 518, 519, 520, 521, 522, 523, 524, 525, 526, 527, 528, 529, 530, 531, 532, 533, 534, 535, 536, 537, 538, 539, 540, 541, 542, 543, 544, 545, 546, 547, 548, 549, 550, 551, 552, 553, 554, 555, 556, 557, 558] (by decide +kernel) (by decide +kernel)
set_option maxRecDepth 20000 in
theorem gL_law_X5_where : GoodIn wsL_law (wsV RL 99 RX5 yX5_where wsX5_where) := goodIn_app (goodIn_of _ (by decide +kernel)) ggL_law_X5_where
set_option maxRecDepth 20000 in
theorem ggL_law_L_guide : GoodIn wsL_law wsL_guide := goodIn_ca (goodIn_ca (goodIn_r _ [444, 223, 109, 445, 446, 447, 2, 448, 232, 233, 114, 115, 32, 449, 450, 451, 31, 452, 64, 358, 359, 360, 361, 339, 340, 362, 363, 352, 364, 365, 366, 367, 368, 453, 420, 421, 422, 63, 454, 416, 417, 418, 455, 456, 457, 458, 503, 504, 505, 506, 507, 508, 509, 510, 511, 512, 575, 576, 577, 578, 579, 580, 581, 582] (by decide +kernel) (by decide +kernel)) (goodIn_sub (fun _ h => List.mem_append_right _ h) (by decide +kernel))) (goodIn_sub (fun _ h => List.mem_append_left _ (List.mem_append_right _ h)) (by decide +kernel))
set_option maxRecDepth 20000 in
theorem gL_law_L_guide : GoodIn wsL_law (va_wsS RL 100 yL_guide wsL_guide) := goodIn_app (goodIn_of _ (by decide +kernel)) ggL_law_L_guide
