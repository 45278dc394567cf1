set_option maxRecDepth 20000 in
theorem ggL_law_X6_node : GoodIn wsL_law wsX6_node := goodIn_r _ [548, 15, 278, 381, 329, 330, 2, 331, 98, 99, 100, 512, 513, 514, 382, 383, 384, 549, 397, 398, 33, 399, 59, 395, 313, 314, 315, 400, 353, 354, 355, 401, 402, 181, 403, 842, 843, 844, 858, 859, 860, 861, 862, 863, 880, 881, 882, 883, 884, 885, 886] (by decide +kernel) (by decide +kernel)
set_option maxRecDepth 20000 in
theorem gL_law_X6_node : GoodIn wsL_law (wsV RL 60 RX6 yX6_node wsX6_node) := goodIn_app (goodIn_of _ (by decide +kernel)) ggL_law_X6_node
set_option maxRecDepth 20000 in
theorem ggL_law_X7_node : GoodIn wsL_law wsX7_node := goodIn_r _ [553, 554, 555, 5, 556, 337, 338, 339, 200, 201, 202, 530, 531, 532, 220, 221, 222, 223, 224, 225, 226, 227, 228, 229, 230, 231, 80, 232, 233, 234, 235, 207, 208, 209, 210, 236, 237, 238, 239, 240, 241, 242, 541, 542, 543, 544, 364, 365, 366, 367, 845, 846, 847, 848, 849, 850, 851, 852, 853, 854, 855, 856, 857] (by decide +kernel) (by decide +kernel)
set_option maxRecDepth 20000 in
theorem gL_law_X7_node : GoodIn wsL_law (wsV RL 63 RX7 yX7_node wsX7_node) := goodIn_app (goodIn_of _ (by decide +kernel)) ggL_law_X7_node
set_option maxRecDepth 20000 in
theorem ggL_law_X6_nodeAgain : GoodIn wsL_law wsX6_nodeAgain := goodIn_r _ [560, 15, 278, 381, 329, 330, 2, 331, 98, 99, 100, 512, 513, 514, 382, 383, 384, 561, 562, 563, 33, 564, 59, 400, 353, 354, 355, 524, 525, 842, 843, 844, 858, 859, 860, 861, 862, 863, 880, 881, 882, 883, 884, 885, 886] (by decide +kernel) (by decide +kernel)
set_option maxRecDepth 20000 in
theorem gL_law_X6_nodeAgain : GoodIn wsL_law (wsV RL 64 RX6 yX6_nodeAgain wsX6_nodeAgain) := goodIn_app (goodIn_of _ (by decide +kernel)) ggL_law_X6_nodeAgain
set_option maxRecDepth 20000 in
theorem ggL_law_X7_nodeAgain : GoodIn wsL_law wsX7_nodeAgain := goodIn_r _ [568, 554, 555, 5, 556, 337, 338, 339, 200, 201, 202, 530, 531, 532, 220, 221, 222, 223, 224, 225, 226, 227, 228, 229, 230, 231, 80, 232, 233, 234, 235, 207, 208, 209, 210, 236, 237, 238, 239, 240, 241, 242, 364, 365, 366, 367, 569, 570, 571, 845, 846, 847, 848, 849, 850, 851, 852, 853, 854, 855, 856, 857] (by decide +kernel) (by decide +kernel)
set_option maxRecDepth 20000 in
theorem gL_law_X7_nodeAgain : GoodIn wsL_law (wsV RL 67 RX7 yX7_nodeAgain wsX7_nodeAgain) := goodIn_app (goodIn_of _ (by decide +kernel)) ggL_law_X7_nodeAgain
set_option maxRecDepth 20000 in
theorem ggL_law_X6_set : GoodIn wsL_law wsX6_set := goodIn_r _ [575, 576, 577, 19, 15, 578, 98, 99, 2, 100, 114, 115, 116, 18, 117, 118, 119, 120, 121, 122, 123, 70, 124, 125, 126, 14, 127, 30, 34, 38, 40, 128, 129, 130, 131, 132, 133, 134, 135, 136, 29, 137, 105, 44, 138, 45, 46, 139, 140, 141, 33, 142, 54, 143, 55, 56, 57, 58, 59, 60, 144, 145, 146, 37, 147, 148, 64, 149, 65, 842, 843, 844, 858, 859, 860, 861, 862, 863, 864, 865, 866, 876, 877, 878, 879, 880, 881, 882, 883, 884, 885, 886, 887, 888, 889] (by decide +kernel) (by decide +kernel)
set_option maxRecDepth 20000 in
theorem gL_law_X6_set : GoodIn wsL_law (wsV RL 68 RX6 yX6_set wsX6_set) := goodIn_app (goodIn_of _ (by decide +kernel)) ggL_law_X6_set
set_option maxRecDepth 20000 in
theorem ggL_law_X7_set : GoodIn wsL_law wsX7_set := goodIn_r _ [582, 80, 583, 584, 5, 585, 84, 586, 200, 201, 202, 211, 212, 213, 214, 215, 81, 456, 457, 458, 459, 845, 846, 847, 848, 849, 850, 851, 852, 853, 854, 855, 856, 857] (by decide +kernel) (by decide +kernel)
set_option maxRecDepth 20000 in
theorem gL_law_X7_set : GoodIn wsL_law (wsV RL 71 RX7 yX7_set wsX7_set) := goodIn_app (goodIn_of _ (by decide +kernel)) ggL_law_X7_set
