set_option maxRecDepth 20000 in
theorem ggL_law_X5_guide : GoodIn wsL_law wsX5_guide := goodIn_r _ [462, 122, 383, 97, 94, 380, 379, 96, 95, 123, 124, 125, 5, 126, 513, 514, 515, 516, 517, 518, 519, 520, 521, 522, 523, 524, 525, 526, 527, 528, 529, 530, 531, 532, 533, 534, 535, 536, 537, 538, 539, 540, 541, 542, 543, 544, 545, 546, 547, 548, 549, 550, 551, 552, 553, 554, 555, 556, 557, 558] (by decide +kernel) (by decide +kernel)
set_option maxRecDepth 20000 in
theorem gL_law_X5_guide : GoodIn wsL_law (wsV RL 102 RX5 yX5_guide wsX5_guide) := goodIn_app (goodIn_of _ (by decide +kernel)) ggL_law_X5_guide
set_option maxRecDepth 20000 in
theorem ggL_law_L_thumb : GoodIn wsL_law wsL_thumb := goodIn_ca (goodIn_r _ [465, 109, 466, 467, 468, 2, 469, 114, 115, 23, 28, 14, 470, 471, 472, 22, 473, 186, 49, 45, 46, 277, 278, 279, 280, 474, 310, 311, 312, 43, 313, 314, 18, 315, 503, 504, 505, 506, 507, 508, 509, 510, 511, 512, 561, 562, 563, 564, 565, 566, 567, 568, 569] (by decide +kernel) (by decide +kernel)) (goodIn_sub (fun _ h => List.mem_append_left _ (List.mem_append_right _ h)) (by decide +kernel))
set_option maxRecDepth 20000 in
theorem gL_law_L_thumb : GoodIn wsL_law (va_wsS RL 103 yL_thumb wsL_thumb) := goodIn_app (goodIn_of _ (by decide +kernel)) ggL_law_L_thumb
set_option maxRecDepth 20000 in
theorem gh_wsX5_thumb_r1 : GoodIn wsL_law wsX5_thumb_r1 := goodIn_r _ [122, 104, 103, 479, 123, 124, 125, 5, 126, 480, 481, 482, 483, 377, 78, 86, 88, 385, 386, 387, 388, 258, 84, 81] (by decide +kernel) (by decide +kernel)
set_option maxRecDepth 20000 in
theorem gh_wsX5_thumb_r2 : GoodIn wsL_law wsX5_thumb_r2 := goodIn_r _ [80, 87, 90, 89, 72, 259, 260, 261, 262, 195, 83, 263, 264, 265] (by decide +kernel) (by decide +kernel)
set_option maxRecDepth 20000 in
theorem gh_wsX5_thumb_c : GoodIn wsL_law [.code yX5_thumb cX5_thumb 6 (some .int)] := goodIn_r _ [478] (by decide +kernel) (by decide +kernel)
theorem ggL_law_X5_thumb : GoodIn wsL_law wsX5_thumb := goodIn_ca (fun w h => (List.mem_cons.mp h).elim (fun e => gh_wsX5_thumb_c w (by rw [e]; exact List.mem_cons_self)) ((goodIn_app gh_wsX5_thumb_r1 gh_wsX5_thumb_r2) w)) (goodIn_sub inlX5 (by decide +kernel))
set_option maxRecDepth 20000 in
theorem gL_law_X5_thumb : GoodIn wsL_law (wsV RL 105 RX5 yX5_thumb wsX5_thumb) := goodIn_app (goodIn_of _ (by decide +kernel)) ggL_law_X5_thumb
set_option maxRecDepth 20000 in
theorem ggL_law_X4_volume : GoodIn wsL_law wsX4_volume := goodIn_r _ [487, 23, 28, 14, 488, 489, 352, 490, 470, 471, 472, 22, 473, 186, 49, 45, 46, 277, 278, 279, 280, 474, 310, 311, 312, 43, 313, 314, 18, 315, 503, 504, 505, 506, 507, 508, 509, 510, 511, 512, 561, 562, 563, 564, 565, 566, 567, 568, 569] (by decide +kernel) (by decide +kernel)
set_option maxRecDepth 20000 in
theorem gL_law_X4_volume : GoodIn wsL_law (wsV RL 106 RX4 yX4_volume wsX4_volume) := goodIn_app (goodIn_of _ (by decide +kernel)) ggL_law_X4_volume
