set_option maxRecDepth 20000 in
theorem ggL_law_X7_hint : GoodIn wsL_law wsX7_hint := goodIn_r _ [555, 556, 425, 426, 5, 427, 146, 147, 148, 149, 150, 557, 558, 559, 560, 561, 99, 102, 428, 429, 430, 431, 106, 107, 344, 345, 346, 347, 103, 348, 349, 350, 351, 105, 210, 211, 212, 432, 433, 434, 435, 108, 436, 437, 438, 439, 440, 441, 442, 443, 444, 445, 446, 447, 104, 100, 583, 584, 585, 586, 587, 588, 589, 590, 591, 592, 593, 594] (by decide +kernel) (by decide +kernel)
set_option maxRecDepth 20000 in
theorem gL_law_X7_hint : GoodIn wsL_law (wsV RL 137 RX7 yX7_hint wsX7_hint) := goodIn_app (goodIn_of _ (by decide +kernel)) ggL_law_X7_hint
set_option maxRecDepth 20000 in
theorem ggL_law_L_gain : GoodIn wsL_law wsL_gain := goodIn_ca (goodIn_r _ [564, 113, 565, 566, 567, 2, 568, 37, 371, 372, 373, 374, 125, 126, 121, 122, 123, 124, 17, 543, 544, 545, 546, 35, 36, 16, 30, 31, 375, 376, 377, 378, 29, 25, 21, 315, 316, 317, 28, 318, 61, 319, 320, 321, 43, 322, 56, 323, 187, 188, 189, 324, 325, 326, 327, 328, 329, 330, 331, 182, 183, 184, 185, 186, 332, 333, 334, 24, 335, 79, 279, 336, 337, 338, 339, 190, 71, 72, 73, 379, 380, 381, 34, 382, 383, 384, 89, 385, 386, 256, 257, 20, 258, 68, 259, 387, 388, 389, 390, 391, 91, 392, 393, 394, 395, 90, 396, 52, 53, 54, 397, 398, 399, 400, 401, 402, 403, 404, 229, 230, 231, 232, 233, 234, 405, 406, 407, 408, 409, 410, 411, 412, 413, 414, 415, 93, 92, 416, 417, 418, 419, 420, 359, 192, 193, 194, 547, 548, 549, 550, 551, 573, 574, 575, 576, 577, 578, 579, 580, 581, 582, 595, 596, 597, 600, 609, 599, 601, 602, 603, 604, 605, 606, 607, 608, 598] (by decide +kernel) (by decide +kernel)) (goodIn_sub (fun _ h => List.mem_append_left _ (List.mem_append_right _ h)) (by decide +kernel))
set_option maxRecDepth 20000 in
theorem gL_law_L_gain : GoodIn wsL_law (va_wsS RL 138 yL_gain wsL_gain) := goodIn_app (goodIn_of _ (by decide +kernel)) ggL_law_L_gain
set_option maxRecDepth 20000 in
theorem ggL_law_X7_gain : GoodIn wsL_law wsX7_gain := goodIn_r _ [572, 561, 425, 426, 5, 427, 146, 147, 148, 149, 150, 557, 558, 559, 560, 556, 99, 102, 428, 429, 430, 431, 106, 107, 344, 345, 346, 347, 103, 348, 349, 350, 351, 105, 210, 211, 212, 432, 433, 434, 435, 108, 436, 437, 438, 439, 440, 441, 442, 443, 444, 445, 446, 447, 104, 100, 583, 584, 585, 586, 587, 588, 589, 590, 591, 592, 593, 594] (by decide +kernel) (by decide +kernel)
set_option maxRecDepth 20000 in
theorem gL_law_X7_gain : GoodIn wsL_law (wsV RL 140 RX7 yX7_gain wsX7_gain) := goodIn_app (goodIn_of _ (by decide +kernel)) ggL_law_X7_gain
theorem dL_law_0 : decode cL_law 0 = .ok (.new 8, 3) := by decide +kernel

