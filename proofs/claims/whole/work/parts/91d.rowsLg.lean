set_option maxRecDepth 20000 in
theorem ggL_law_X6_damp : GoodIn wsL_law wsX6_damp := goodIn_r _ [474, 19, 15, 278, 329, 330, 2, 331, 98, 99, 100, 114, 115, 116, 18, 117, 118, 119, 120, 121, 122, 123, 70, 124, 125, 126, 14, 127, 30, 34, 38, 40, 128, 129, 130, 131, 132, 133, 134, 135, 136, 29, 137, 105, 44, 138, 45, 46, 139, 140, 141, 33, 142, 54, 143, 55, 56, 57, 58, 59, 60, 144, 145, 146, 37, 147, 148, 64, 149, 65, 416, 417, 418, 419, 420, 421, 422, 423, 424, 405, 406, 407, 425, 426, 427, 428, 429, 430, 431, 432, 433, 434, 435, 475, 189, 190, 191, 192, 193, 194, 195, 842, 843, 844, 858, 859, 860, 861, 862, 863, 864, 865, 866, 876, 877, 878, 879, 880, 881, 882, 883, 884, 885, 886, 887, 888, 889] (by decide +kernel) (by decide +kernel)
set_option maxRecDepth 20000 in
theorem gL_law_X6_damp : GoodIn wsL_law (wsV RL 48 RX6 yX6_damp wsX6_damp) := goodIn_app (goodIn_of _ (by decide +kernel)) ggL_law_X6_damp
set_option maxRecDepth 20000 in
theorem ggL_law_X7_damp : GoodIn wsL_law wsX7_damp := goodIn_r _ [479, 337, 338, 5, 339, 200, 201, 202, 211, 212, 213, 214, 215, 81, 80, 460, 461, 462, 463, 464, 465, 466, 467, 444, 445, 446, 447, 456, 457, 458, 459, 468, 469, 470, 251, 252, 253, 254, 845, 846, 847, 848, 849, 850, 851, 852, 853, 854, 855, 856, 857] (by decide +kernel) (by decide +kernel)
set_option maxRecDepth 20000 in
theorem gL_law_X7_damp : GoodIn wsL_law (wsV RL 51 RX7 yX7_damp wsX7_damp) := goodIn_app (goodIn_of _ (by decide +kernel)) ggL_law_X7_damp
set_option maxRecDepth 20000 in
theorem ggL_law_X6_stringInfo : GoodIn wsL_law wsX6_stringInfo := goodIn_r _ [483, 15, 278, 328, 484, 485, 372, 486, 329, 330, 2, 331, 98, 99, 100, 487, 488, 489, 33, 490, 58, 55, 352, 353, 354, 355, 59, 491, 421, 422, 14, 423, 34, 424, 405, 406, 407, 60, 425, 426, 427, 428, 40, 492, 493, 494, 495, 404, 842, 843, 844, 858, 859, 860, 861, 862, 863, 880, 881, 882, 883, 884, 885, 886] (by decide +kernel) (by decide +kernel)
set_option maxRecDepth 20000 in
theorem gL_law_X6_stringInfo : GoodIn wsL_law (wsV RL 52 RX6 yX6_stringInfo wsX6_stringInfo) := goodIn_app (goodIn_of _ (by decide +kernel)) ggL_law_X6_stringInfo
set_option maxRecDepth 20000 in
theorem ggL_law_X7_stringInfo : GoodIn wsL_law wsX7_stringInfo := goodIn_r _ [499, 337, 338, 5, 339, 200, 201, 202, 228, 229, 230, 231, 80, 224, 225, 226, 227, 232, 233, 234, 235, 207, 208, 209, 210, 236, 237, 238, 239, 240, 241, 242, 500, 501, 502, 503, 364, 365, 366, 367, 220, 221, 222, 223, 460, 461, 462, 463, 464, 465, 466, 467, 444, 445, 446, 447, 456, 457, 458, 459, 504, 505, 506, 507, 845, 846, 847, 848, 849, 850, 851, 852, 853, 854, 855, 856, 857] (by decide +kernel) (by decide +kernel)
set_option maxRecDepth 20000 in
theorem gL_law_X7_stringInfo : GoodIn wsL_law (wsV RL 55 RX7 yX7_stringInfo wsX7_stringInfo) := goodIn_app (goodIn_of _ (by decide +kernel)) ggL_law_X7_stringInfo
set_option maxRecDepth 20000 in
theorem ggL_law_X6_modeInfo : GoodIn wsL_law wsX6_modeInfo := goodIn_r _ [511, 15, 278, 329, 330, 2, 331, 98, 99, 100, 512, 513, 514, 515, 405, 406, 33, 407, 60, 516, 517, 518, 519, 54, 400, 353, 354, 355, 59, 520, 521, 522, 523, 524, 525, 842, 843, 844, 858, 859, 860, 861, 862, 863, 880, 881, 882, 883, 884, 885, 886] (by decide +kernel) (by decide +kernel)
set_option maxRecDepth 20000 in
theorem gL_law_X6_modeInfo : GoodIn wsL_law (wsV RL 56 RX6 yX6_modeInfo wsX6_modeInfo) := goodIn_app (goodIn_of _ (by decide +kernel)) ggL_law_X6_modeInfo
set_option maxRecDepth 20000 in
theorem ggL_law_X7_modeInfo : GoodIn wsL_law wsX7_modeInfo := goodIn_r _ [529, 337, 338, 5, 339, 200, 201, 202, 530, 531, 532, 444, 445, 446, 447, 80, 533, 534, 535, 536, 228, 229, 230, 231, 364, 365, 366, 367, 220, 221, 222, 223, 224, 225, 226, 227, 232, 233, 234, 235, 207, 208, 209, 210, 236, 237, 238, 239, 240, 241, 242, 537, 538, 539, 540, 541, 542, 543, 544, 845, 846, 847, 848, 849, 850, 851, 852, 853, 854, 855, 856, 857] (by decide +kernel) (by decide +kernel)
set_option maxRecDepth 20000 in
theorem gL_law_X7_modeInfo : GoodIn wsL_law (wsV RL 59 RX7 yX7_modeInfo wsX7_modeInfo) := goodIn_app (goodIn_of _ (by decide +kernel)) ggL_law_X7_modeInfo
