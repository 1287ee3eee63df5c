set_option maxRecDepth 20000 in
theorem ggL_law_X7_chain : GoodIn wsL_law wsX7_chain := goodIn_r _ [284, 105, 207, 208, 5, 209, 146, 147, 148, 149, 150, 583, 584, 585, 586, 587, 588, 589, 590, 591, 592, 593, 594] (by decide +kernel) (by decide +kernel)
set_option maxRecDepth 20000 in
theorem gL_law_X7_chain : GoodIn wsL_law (wsV RL 100 RX7 yX7_chain wsX7_chain) := goodIn_app (goodIn_of _ (by decide +kernel)) ggL_law_X7_chain
set_option maxRecDepth 20000 in
theorem ggL_law_L_ideas : GoodIn wsL_law wsL_ideas := goodIn_ca (goodIn_r _ [287, 113, 288, 289, 290, 2, 291, 121, 122, 123, 124, 125, 126, 17, 595, 596, 597, 573, 574, 575, 576, 577, 578, 579, 580, 581, 582] (by decide +kernel) (by decide +kernel)) (goodIn_sub (fun _ h => List.mem_append_left _ (List.mem_append_right _ h)) (by decide +kernel))
set_option maxRecDepth 20000 in
theorem gL_law_L_ideas : GoodIn wsL_law (va_wsS RL 101 yL_ideas wsL_ideas) := goodIn_app (goodIn_of _ (by decide +kernel)) ggL_law_L_ideas
set_option maxRecDepth 20000 in
theorem ggL_law_X7_ideas : GoodIn wsL_law wsX7_ideas := goodIn_r _ [295, 99, 140, 141, 5, 142, 146, 147, 148, 149, 150, 583, 584, 585, 586, 587, 588, 589, 590, 591, 592, 593, 594] (by decide +kernel) (by decide +kernel)
set_option maxRecDepth 20000 in
theorem gL_law_X7_ideas : GoodIn wsL_law (wsV RL 103 RX7 yX7_ideas wsX7_ideas) := goodIn_app (goodIn_of _ (by decide +kernel)) ggL_law_X7_ideas
set_option maxRecDepth 20000 in
theorem ggL_law_L_links : GoodIn wsL_law wsL_links := goodIn_ca (goodIn_r _ [298, 113, 299, 300, 301, 2, 302, 121, 122, 123, 124, 125, 126, 17, 303, 225, 226, 28, 227, 61, 186, 187, 188, 43, 189, 56, 228, 229, 230, 231, 232, 233, 234, 595, 596, 597, 573, 574, 575, 576, 577, 578, 579, 580, 581, 582, 600, 609] (by decide +kernel) (by decide +kernel)) (goodIn_sub (fun _ h => List.mem_append_left _ (List.mem_append_right _ h)) (by decide +kernel))
set_option maxRecDepth 20000 in
theorem gL_law_L_links : GoodIn wsL_law (va_wsS RL 104 yL_links wsL_links) := goodIn_app (goodIn_of _ (by decide +kernel)) ggL_law_L_links
set_option maxRecDepth 20000 in
theorem ggL_law_X7_links : GoodIn wsL_law wsX7_links := goodIn_r _ [307, 140, 141, 5, 142, 146, 147, 148, 149, 150, 244, 245, 246, 247, 102, 583, 584, 585, 586, 587, 588, 589, 590, 591, 592, 593, 594] (by decide +kernel) (by decide +kernel)
set_option maxRecDepth 20000 in
theorem gL_law_X7_links : GoodIn wsL_law (wsV RL 106 RX7 yX7_links wsX7_links) := goodIn_app (goodIn_of _ (by decide +kernel)) ggL_law_X7_links
set_option maxRecDepth 20000 in
theorem ggL_law_L_held : GoodIn wsL_law wsL_held := goodIn_ca (goodIn_r _ [310, 113, 311, 312, 313, 2, 314, 29, 25, 121, 122, 123, 124, 125, 126, 17, 315, 316, 317, 28, 318, 61, 319, 320, 321, 43, 322, 56, 323, 187, 188, 189, 324, 325, 326, 327, 328, 329, 330, 331, 182, 183, 184, 185, 186, 332, 333, 334, 24, 335, 79, 279, 336, 337, 338, 339, 190, 71, 72, 73, 303, 225, 226, 227, 228, 229, 230, 231, 232, 233, 234, 573, 574, 575, 576, 577, 578, 579, 580, 581, 582, 595, 596, 597, 600, 609, 599] (by decide +kernel) (by decide +kernel)) (goodIn_sub (fun _ h => List.mem_append_left _ (List.mem_append_right _ h)) (by decide +kernel))
set_option maxRecDepth 20000 in
theorem gL_law_L_held : GoodIn wsL_law (va_wsS RL 107 yL_held wsL_held) := goodIn_app (goodIn_of _ (by decide +kernel)) ggL_law_L_held
