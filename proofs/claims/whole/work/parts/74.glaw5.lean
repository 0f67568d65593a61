set_option maxRecDepth 20000 in
theorem ggL_law_X5_order : GoodIn wsL_law wsX5_order := goodIn_r _ [257, 122, 258, 84, 259, 260, 261, 5, 262, 195, 83, 78, 263, 264, 265, 513, 514, 515, 516, 517, 518, 519, 520, 521, 522, 523, 524, 525, 526, 527, 528, 529, 530, 531, 532, 533, 534, 535, 536, 537, 538, 539, 540, 541, 542, 543, 544, 545, 546, 547, 548, 549, 550, 551, 552, 553, 554, 555, 556, 557, 558] (by decide +kernel) (by decide +kernel)
set_option maxRecDepth 20000 in
theorem gL_law_X5_order : GoodIn wsL_law (wsV RL 84 RX5 yX5_order wsX5_order) := goodIn_app (goodIn_of _ (by decide +kernel)) ggL_law_X5_order
set_option maxRecDepth 20000 in
theorem ggL_law_L_leads : GoodIn wsL_law wsL_leads := goodIn_ca (goodIn_r _ [268, 223, 269, 270, 271, 2, 272, 23, 228, 229, 230, 231, 232, 233, 273, 274, 275, 22, 276, 50, 44, 277, 278, 279, 280, 281, 282, 283, 284, 186, 43, 49, 187, 188, 189, 190, 503, 504, 505, 506, 507, 508, 509, 510, 511, 512, 561, 562, 563, 564, 565, 566, 567, 568, 569] (by decide +kernel) (by decide +kernel)) (goodIn_sub (fun _ h => List.mem_append_right _ h) (by decide +kernel))
set_option maxRecDepth 20000 in
theorem gL_law_L_leads : GoodIn wsL_law (va_wsS RL 85 yL_leads wsL_leads) := goodIn_app (goodIn_of _ (by decide +kernel)) ggL_law_L_leads
set_option maxRecDepth 20000 in
theorem ggL_law_X5_leads : GoodIn wsL_law wsX5_leads := goodIn_r _ [288, 195, 85, 82, 258, 79, 78, 84, 242, 243, 244, 5, 245, 122, 259, 260, 261, 262, 83, 263, 264, 265, 513, 514, 515, 516, 517, 518, 519, 520, 521, 522, 523, 524, 525, 526, 527, 528, 529, 530, 531, 532, 533, 534, 535, 536, 537, 538, 539, 540, 541, 542, 543, 544, 545, 546, 547, 548, 549, 550, 551, 552, 553, 554, 555, 556, 557, 558] (by decide +kernel) (by decide +kernel)
set_option maxRecDepth 20000 in
theorem gL_law_X5_leads : GoodIn wsL_law (wsV RL 87 RX5 yX5_leads wsX5_leads) := goodIn_app (goodIn_of _ (by decide +kernel)) ggL_law_X5_leads
set_option maxRecDepth 20000 in
theorem ggL_law_X4_set_ : GoodIn wsL_law wsX4_set_ := goodIn_r _ [292, 27, 14, 23, 33, 32, 293, 294, 295, 296, 26, 297, 55, 298, 299, 300, 301, 302, 58, 303, 304, 305, 306, 307, 308, 56, 57, 309, 310, 311, 22, 312, 43, 313, 314, 18, 315, 316, 317, 318, 319, 320, 321, 322, 323, 324, 325, 326, 327, 328, 329, 330, 331, 332, 333, 334, 335, 336, 337, 31, 338, 339, 340, 341, 64, 342, 343, 344, 345, 65, 346, 347, 348, 349, 350, 351, 352, 353, 354, 355, 356, 357, 358, 359, 360, 361, 362, 363, 364, 365, 366, 367, 368, 369, 370, 371, 372, 63, 503, 504, 505, 506, 507, 508, 509, 510, 511, 512, 575, 576, 577, 578, 579, 580, 581, 582, 570, 571, 572, 573, 574, 561, 562, 563, 564, 565, 566, 567, 568, 569] (by decide +kernel) (by decide +kernel)
set_option maxRecDepth 20000 in
theorem gL_law_X4_set_ : GoodIn wsL_law (wsV RL 88 RX4 yX4_set_ wsX4_set_) := goodIn_app (goodIn_of _ (by decide +kernel)) ggL_law_X4_set_
