set_option maxRecDepth 20000 in
theorem ggL_law_X5_guide : GoodIn wsL_law wsX5_guide := goodIn_r _ [458, 122, 379, 97, 94, 376, 375, 96, 95, 123, 124, 125, 5, 126, 509, 510, 511, 512, 513, 514, 515, 516, 517, 518, 519, 520, 521, 522, 523, 524, 525, 526, 527, 528, 529, 530, 531, 532, 533, 534, 535, 536, 537, 538, 539, 540, 541, 542, 543, 544, 545, 546, 547, 548, 549, 550, 551, 552, 553, 554] (by decide +kernel) (by decide +kernel)
set_option maxRecDepth 20000 in
theorem gL_law_X5_guide : GoodIn wsL_law (wsV RL 102 RX5 yX5_guide wsX5_guide) := goodIn_app (goodIn_of _ (by decide +kernel)) ggL_law_X5_guide
set_option maxRecDepth 20000 in
theorem ggL_law_L_thumb : GoodIn wsL_law wsL_thumb := goodIn_ca (goodIn_r _ [461, 109, 462, 463, 464, 2, 465, 114, 115, 23, 28, 14, 466, 467, 468, 22, 469, 186, 49, 45, 46, 277, 278, 279, 280, 470, 306, 307, 308, 43, 309, 310, 18, 311, 499, 500, 501, 502, 503, 504, 505, 506, 507, 508, 557, 558, 559, 560, 561, 562, 563, 564, 565] (by decide +kernel) (by decide +kernel)) (goodIn_sub (fun _ h => List.mem_append_left _ (List.mem_append_right _ h)) (by decide +kernel))
set_option maxRecDepth 20000 in
theorem gL_law_L_thumb : GoodIn wsL_law (va_wsS RL 103 yL_thumb wsL_thumb) := goodIn_app (goodIn_of _ (by decide +kernel)) ggL_law_L_thumb
set_option maxRecDepth 20000 in
theorem gh_wsX5_thumb_r1 : GoodIn wsL_law wsX5_thumb_r1 := goodIn_r _ [122, 104, 103, 475, 123, 124, 125, 5, 126, 476, 477, 478, 479, 373, 78, 86, 88, 381, 382, 383, 384, 258, 84, 81] (by decide +kernel) (by decide +kernel)
set_option maxRecDepth 20000 in
theorem gh_wsX5_thumb_r2 : GoodIn wsL_law wsX5_thumb_r2 := goodIn_r _ [80, 87, 90, 89, 72, 259, 260, 261, 262, 195, 83, 263, 264, 265] (by decide +kernel) (by decide +kernel)
set_option maxRecDepth 20000 in
theorem gh_wsX5_thumb_c : GoodIn wsL_law [.code yX5_thumb cX5_thumb 6 (some .int)] := goodIn_r _ [474] (by decide +kernel) (by decide +kernel)
theorem ggL_law_X5_thumb : GoodIn wsL_law wsX5_thumb := goodIn_ca (fun w h => (List.mem_cons.mp h).elim (fun e => gh_wsX5_thumb_c w (by rw [e]; exact List.mem_cons_self)) ((goodIn_app gh_wsX5_thumb_r1 gh_wsX5_thumb_r2) w)) (goodIn_sub inlX5 (by decide +kernel))
set_option maxRecDepth 20000 in
theorem gL_law_X5_thumb : GoodIn wsL_law (wsV RL 105 RX5 yX5_thumb wsX5_thumb) := goodIn_app (goodIn_of _ (by decide +kernel)) ggL_law_X5_thumb
set_option maxRecDepth 20000 in
theorem ggL_law_X4_volume : GoodIn wsL_law wsX4_volume := goodIn_r _ [483, 23, 28, 14, 484, 485, 348, 486, 466, 467, 468, 22, 469, 186, 49, 45, 46, 277, 278, 279, 280, 470, 306, 307, 308, 43, 309, 310, 18, 311, 499, 500, 501, 502, 503, 504, 505, 506, 507, 508, 557, 558, 559, 560, 561, 562, 563, 564, 565] (by decide +kernel) (by decide +kernel)
set_option maxRecDepth 20000 in
theorem gL_law_X4_volume : GoodIn wsL_law (wsV RL 106 RX4 yX4_volume wsX4_volume) := goodIn_app (goodIn_of _ (by decide +kernel)) ggL_law_X4_volume
