set_option maxRecDepth 20000 in
theorem gh_wsX5_set__r1 : GoodIn wsL_law wsX5_set__r1 := goodIn_r _ [122, 377, 71, 91, 378, 379, 99, 95, 100, 96, 380, 101, 97, 381, 94, 102, 382, 98, 93, 88, 86, 87, 383, 384] (by decide +kernel) (by decide +kernel)
set_option maxRecDepth 20000 in
theorem gh_wsX5_set__r2 : GoodIn wsL_law wsX5_set__r2 := goodIn_r _ [385, 386, 387, 5, 388, 258, 84, 81, 80, 90, 89, 78, 72, 259, 260, 261, 262, 195, 83, 263, 264, 265, 389, 390] (by decide +kernel) (by decide +kernel)
set_option maxRecDepth 20000 in
theorem gh_wsX5_set__r3 : GoodIn wsL_law wsX5_set__r3 := goodIn_r _ [391, 392, 70, 73, 74, 92, 393, 394, 395, 396] (by decide +kernel) (by decide +kernel)
set_option maxRecDepth 20000 in
theorem gh_wsX5_set__c : GoodIn wsL_law [.code yX5_set_ cX5_set_ 3 (some .int)] := goodIn_r _ [376] (by decide +kernel) (by decide +kernel)
theorem ggL_law_X5_set_ : GoodIn wsL_law wsX5_set_ := goodIn_ca (fun w h => (List.mem_cons.mp h).elim (fun e => gh_wsX5_set__c w (by rw [e]; exact List.mem_cons_self)) ((goodIn_app gh_wsX5_set__r1 (goodIn_app gh_wsX5_set__r2 gh_wsX5_set__r3)) w)) (goodIn_sub inlX5 (by decide +kernel))
set_option maxRecDepth 20000 in
theorem gL_law_X5_set_ : GoodIn wsL_law (wsV RL 90 RX5 yX5_set_ wsX5_set_) := goodIn_app (goodIn_of _ (by decide +kernel)) ggL_law_X5_set_
set_option maxRecDepth 20000 in
theorem ggL_law_L_told : GoodIn wsL_law wsL_told := goodIn_ca (goodIn_r _ [399, 109, 400, 401, 402, 2, 403, 114, 115, 32, 293, 503, 504, 505, 506, 507, 508, 509, 510, 511, 512, 575, 576, 577, 578, 579, 580, 581, 582] (by decide +kernel) (by decide +kernel)) (goodIn_sub (fun _ h => List.mem_append_left _ (List.mem_append_right _ h)) (by decide +kernel))
set_option maxRecDepth 20000 in
theorem gL_law_L_told : GoodIn wsL_law (va_wsS RL 91 yL_told wsL_told) := goodIn_app (goodIn_of _ (by decide +kernel)) ggL_law_L_told
set_option maxRecDepth 20000 in
theorem ggL_law_X5_told : GoodIn wsL_law wsX5_told := goodIn_r _ [407, 122, 382, 383, 380, 379, 384, 123, 124, 125, 5, 126, 513, 514, 515, 516, 517, 518, 519, 520, 521, 522, 523, 524, 525, 526, 527, 528, 529, 530, 531, 532, 533, 534, 535, 536, 537, 538, 539, 540, 541, 542, 543, 544, 545, 546, 547, 548, 549, 550, 551, 552, 553, 554, 555, 556, 557, 558] (by decide +kernel) (by decide +kernel)
set_option maxRecDepth 20000 in
theorem gL_law_X5_told : GoodIn wsL_law (wsV RL 93 RX5 yX5_told wsX5_told) := goodIn_app (goodIn_of _ (by decide +kernel)) ggL_law_X5_told
set_option maxRecDepth 20000 in
theorem ggL_law_L_column : GoodIn wsL_law wsL_column := goodIn_ca (goodIn_ca (goodIn_r _ [410, 223, 109, 411, 412, 413, 2, 414, 232, 233, 114, 115, 32, 415, 416, 417, 31, 418, 63, 419, 420, 421, 422, 503, 504, 505, 506, 507, 508, 509, 510, 511, 512, 575, 576, 577, 578, 579, 580, 581, 582] (by decide +kernel) (by decide +kernel)) (goodIn_sub (fun _ h => List.mem_append_right _ h) (by decide +kernel))) (goodIn_sub (fun _ h => List.mem_append_left _ (List.mem_append_right _ h)) (by decide +kernel))
set_option maxRecDepth 20000 in
theorem gL_law_L_column : GoodIn wsL_law (va_wsS RL 94 yL_column wsL_column) := goodIn_app (goodIn_of _ (by decide +kernel)) ggL_law_L_column
