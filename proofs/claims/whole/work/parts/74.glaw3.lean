set_option maxRecDepth 20000 in
theorem ggL_law_X5_feed : GoodIn wsL_law wsX5_feed := goodIn_r _ [164, 122, 165, 77, 513, 514, 515, 516, 517, 518, 519, 520, 521, 522, 523, 524, 525, 526, 527, 528, 529, 530, 531, 532, 533, 534, 535, 536, 537, 538, 539, 540, 541, 542, 543, 544, 545, 546, 547, 548, 549, 550, 551, 552, 553, 554, 555, 556, 557, 558] (by decide +kernel) (by decide +kernel)
set_option maxRecDepth 20000 in
theorem gL_law_X5_feed : GoodIn wsL_law (wsV RL 71 RX5 yX5_feed wsX5_feed) := goodIn_app (goodIn_of _ (by decide +kernel)) ggL_law_X5_feed
set_option maxRecDepth 20000 in
theorem ggL_law_L_entry : GoodIn wsL_law wsL_entry := goodIn_ca (goodIn_r _ [168, 109, 169, 170, 171, 2, 172, 114, 115, 19, 138, 23, 15, 157, 158, 159, 18, 160, 152, 173, 174, 175, 176, 38, 177, 178, 179, 180, 181, 182, 183, 22, 184, 185, 43, 44, 45, 46, 186, 49, 187, 188, 189, 190, 503, 504, 505, 506, 507, 508, 509, 510, 511, 512, 559, 560, 561, 562, 563, 564, 565, 566, 567, 568, 569] (by decide +kernel) (by decide +kernel)) (goodIn_sub (fun _ h => List.mem_append_left _ (List.mem_append_right _ h)) (by decide +kernel))
set_option maxRecDepth 20000 in
theorem gL_law_L_entry : GoodIn wsL_law (va_wsS RL 72 yL_entry wsL_entry) := goodIn_app (goodIn_of _ (by decide +kernel)) ggL_law_L_entry
set_option maxRecDepth 20000 in
theorem ggL_law_X5_entry : GoodIn wsL_law wsX5_entry := goodIn_r _ [194, 122, 165, 143, 195, 78, 80, 75, 81, 123, 124, 125, 5, 126, 196, 197, 198, 199, 77, 200, 201, 202, 203, 204, 205, 206, 207, 82, 83, 513, 514, 515, 516, 517, 518, 519, 520, 521, 522, 523, 524, 525, 526, 527, 528, 529, 530, 531, 532, 533, 534, 535, 536, 537, 538, 539, 540, 541, 542, 543, 544, 545, 546, 547, 548, 549, 550, 551, 552, 553, 554, 555, 556, 557, 558] (by decide +kernel) (by decide +kernel)
set_option maxRecDepth 20000 in
theorem gL_law_X5_entry : GoodIn wsL_law (wsV RL 74 RX5 yX5_entry wsX5_entry) := goodIn_app (goodIn_of _ (by decide +kernel)) ggL_law_X5_entry
set_option maxRecDepth 20000 in
theorem ggL_law_L_see : GoodIn wsL_law wsL_see := goodIn_ca (goodIn_r _ [210, 109, 211, 212, 213, 2, 214, 114, 115, 19, 23, 215, 157, 158, 159, 18, 160, 152, 173, 174, 175, 176, 38, 177, 178, 179, 180, 181, 182, 183, 22, 184, 185, 43, 44, 45, 46, 186, 49, 187, 188, 189, 190, 503, 504, 505, 506, 507, 508, 509, 510, 511, 512, 559, 560, 561, 562, 563, 564, 565, 566, 567, 568, 569] (by decide +kernel) (by decide +kernel)) (goodIn_sub (fun _ h => List.mem_append_left _ (List.mem_append_right _ h)) (by decide +kernel))
set_option maxRecDepth 20000 in
theorem gL_law_L_see : GoodIn wsL_law (va_wsS RL 75 yL_see wsL_see) := goodIn_app (goodIn_of _ (by decide +kernel)) ggL_law_L_see
