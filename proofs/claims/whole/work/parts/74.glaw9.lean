set_option maxRecDepth 20000 in
theorem gh_wsX5_volume_r1 : GoodIn wsL_law wsX5_volume_r1 := goodIn_r _ [122, 104, 103, 480, 481, 482, 5, 483, 377, 78, 86, 88, 385, 386, 387, 388, 258, 84, 81, 80, 87, 90, 89, 72] (by decide +kernel) (by decide +kernel)
set_option maxRecDepth 20000 in
theorem gh_wsX5_volume_r2 : GoodIn wsL_law wsX5_volume_r2 := goodIn_r _ [259, 260, 261, 262, 195, 83, 263, 264, 265] (by decide +kernel) (by decide +kernel)
set_option maxRecDepth 20000 in
theorem gh_wsX5_volume_c : GoodIn wsL_law [.code yX5_volume cX5_volume 8 (some .int)] := goodIn_r _ [494] (by decide +kernel) (by decide +kernel)
theorem ggL_law_X5_volume : GoodIn wsL_law wsX5_volume := goodIn_ca (fun w h => (List.mem_cons.mp h).elim (fun e => gh_wsX5_volume_c w (by rw [e]; exact List.mem_cons_self)) ((goodIn_app gh_wsX5_volume_r1 gh_wsX5_volume_r2) w)) (goodIn_sub inlX5 (by decide +kernel))
set_option maxRecDepth 20000 in
theorem gL_law_X5_volume : GoodIn wsL_law (wsV RL 109 RX5 yX5_volume wsX5_volume) := goodIn_app (goodIn_of _ (by decide +kernel)) ggL_law_X5_volume
set_option maxRecDepth 20000 in
theorem ggL_law_X4_count : GoodIn wsL_law wsX4_count := goodIn_r _ [498, 23, 138, 19, 157, 158, 159, 18, 160, 152, 503, 504, 505, 506, 507, 508, 509, 510, 511, 512, 561, 562, 563, 564, 565, 566, 567, 568, 569, 559, 560] (by decide +kernel) (by decide +kernel)
set_option maxRecDepth 20000 in
theorem gL_law_X4_count : GoodIn wsL_law (wsV RL 110 RX4 yX4_count wsX4_count) := goodIn_app (goodIn_of _ (by decide +kernel)) ggL_law_X4_count
set_option maxRecDepth 20000 in
theorem ggL_law_X5_count : GoodIn wsL_law wsX5_count := goodIn_r _ [502, 122, 258, 195, 143, 165, 259, 260, 261, 5, 262, 83, 78, 84, 263, 264, 265, 513, 514, 515, 516, 517, 518, 519, 520, 521, 522, 523, 524, 525, 526, 527, 528, 529, 530, 531, 532, 533, 534, 535, 536, 537, 538, 539, 540, 541, 542, 543, 544, 545, 546, 547, 548, 549, 550, 551, 552, 553, 554, 555, 556, 557, 558] (by decide +kernel) (by decide +kernel)
set_option maxRecDepth 20000 in
theorem gL_law_X5_count : GoodIn wsL_law (wsV RL 113 RX5 yX5_count wsX5_count) := goodIn_app (goodIn_of _ (by decide +kernel)) ggL_law_X5_count
