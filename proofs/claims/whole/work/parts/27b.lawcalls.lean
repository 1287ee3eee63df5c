set_option maxRecDepth 20000 in
theorem ggL_law_X7_link : GoodIn wsL_law wsX7_link := goodIn_r _ [198, 102, 199, 200, 201, 5, 202, 150, 203, 204, 205, 206, 99, 140, 141, 142, 207, 208, 209, 210, 211, 212, 583, 584, 585, 586, 587, 588, 589, 590, 591, 592, 593, 594] (by decide +kernel) (by decide +kernel)
set_option maxRecDepth 20000 in
theorem gL_law_X7_link : GoodIn wsL_law (wsV RL 89 RX7 yX7_link wsX7_link) := goodIn_app (goodIn_of _ (by decide +kernel)) ggL_law_X7_link
set_option maxRecDepth 20000 in
theorem ggL_law_L_clear : GoodIn wsL_law wsL_clear := goodIn_ca (goodIn_r _ [215, 113, 216, 217, 218, 2, 219, 121, 122, 123, 124, 125, 126, 17, 220, 221, 222, 15, 223, 134, 46, 224, 225, 226, 28, 227, 61, 186, 187, 188, 43, 189, 56, 228, 229, 230, 231, 232, 233, 234, 235, 236, 237, 238, 239, 82, 83, 84, 573, 574, 575, 576, 577, 578, 579, 580, 581, 582, 595, 596, 597, 600, 609] (by decide +kernel) (by decide +kernel)) (goodIn_sub (fun _ h => List.mem_append_left _ (List.mem_append_right _ h)) (by decide +kernel))
set_option maxRecDepth 20000 in
theorem gL_law_L_clear : GoodIn wsL_law (va_wsS RL 90 yL_clear wsL_clear) := goodIn_app (goodIn_of _ (by decide +kernel)) ggL_law_L_clear
set_option maxRecDepth 20000 in
theorem ggL_law_X7_clear : GoodIn wsL_law wsX7_clear := goodIn_r _ [243, 99, 102, 140, 141, 5, 142, 146, 147, 148, 149, 150, 244, 245, 246, 247, 583, 584, 585, 586, 587, 588, 589, 590, 591, 592, 593, 594] (by decide +kernel) (by decide +kernel)
set_option maxRecDepth 20000 in
theorem gL_law_X7_clear : GoodIn wsL_law (wsV RL 93 RX7 yX7_clear wsX7_clear) := goodIn_app (goodIn_of _ (by decide +kernel)) ggL_law_X7_clear
set_option maxRecDepth 20000 in
theorem ggL_law_L_synonyms : GoodIn wsL_law wsL_synonyms := goodIn_ca (goodIn_r _ [250, 113, 251, 252, 253, 2, 254, 21, 127, 128, 129, 125, 126, 255, 256, 257, 20, 258, 68, 259, 187, 188, 43, 189, 56, 260, 261, 262, 263, 70, 71, 72, 73, 573, 574, 575, 576, 577, 578, 579, 580, 581, 582, 598, 609] (by decide +kernel) (by decide +kernel)) (goodIn_sub (fun _ h => List.mem_append_left _ (List.mem_append_right _ h)) (by decide +kernel))
set_option maxRecDepth 20000 in
theorem gL_law_L_synonyms : GoodIn wsL_law (va_wsS RL 94 yL_synonyms wsL_synonyms) := goodIn_app (goodIn_of _ (by decide +kernel)) ggL_law_L_synonyms
set_option maxRecDepth 20000 in
theorem ggL_law_X7_synonyms : GoodIn wsL_law wsX7_synonyms := goodIn_r _ [267, 104, 143, 144, 5, 145, 146, 147, 148, 149, 150, 583, 584, 585, 586, 587, 588, 589, 590, 591, 592, 593, 594] (by decide +kernel) (by decide +kernel)
set_option maxRecDepth 20000 in
theorem gL_law_X7_synonyms : GoodIn wsL_law (wsV RL 96 RX7 yX7_synonyms wsX7_synonyms) := goodIn_app (goodIn_of _ (by decide +kernel)) ggL_law_X7_synonyms
set_option maxRecDepth 20000 in
theorem ggL_law_L_chain : GoodIn wsL_law wsL_chain := goodIn_ca (goodIn_r _ [270, 162, 271, 272, 273, 2, 274, 25, 175, 176, 177, 170, 171, 275, 276, 277, 24, 278, 79, 279, 187, 188, 43, 189, 56, 280, 71, 72, 73, 573, 574, 575, 576, 577, 578, 579, 580, 581, 582, 599, 609] (by decide +kernel) (by decide +kernel)) (goodIn_sub (fun _ h => List.mem_append_right _ h) (by decide +kernel))
set_option maxRecDepth 20000 in
theorem gL_law_L_chain : GoodIn wsL_law (va_wsS RL 97 yL_chain wsL_chain) := goodIn_app (goodIn_of _ (by decide +kernel)) ggL_law_L_chain
