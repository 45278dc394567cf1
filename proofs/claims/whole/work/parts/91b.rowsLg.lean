set_option maxRecDepth 20000 in
theorem ggL_law_X6_fretInfo : GoodIn wsL_law wsX6_fretInfo := goodIn_r _ [277, 15, 96, 278, 259, 111, 112, 29, 113, 105, 99, 2, 100, 279, 107, 108, 109, 44, 110, 260, 172, 173, 174, 45, 280, 281, 282, 283, 46, 284, 285, 286, 33, 287, 55, 288, 289, 290, 291, 292, 293, 294, 58, 295, 168, 169, 170, 171, 106, 175, 176, 177, 178, 179, 180, 181, 182, 842, 843, 844, 858, 859, 860, 861, 862, 863, 876, 877, 878, 879, 880, 881, 882, 883, 884, 885, 886] (by decide +kernel) (by decide +kernel)
set_option maxRecDepth 20000 in
theorem gL_law_X6_fretInfo : GoodIn wsL_law (wsV RL 22 RX6 yX6_fretInfo wsX6_fretInfo) := goodIn_app (goodIn_of _ (by decide +kernel)) ggL_law_X6_fretInfo
set_option maxRecDepth 20000 in
theorem ggL_law_X7_fretInfo : GoodIn wsL_law wsX7_fretInfo := goodIn_r _ [299, 270, 271, 272, 5, 273, 80, 200, 201, 202, 207, 208, 209, 210, 300, 301, 302, 303, 224, 225, 226, 227, 228, 229, 230, 231, 232, 233, 234, 235, 236, 237, 238, 239, 240, 241, 242, 845, 846, 847, 848, 849, 850, 851, 852, 853, 854, 855, 856, 857] (by decide +kernel) (by decide +kernel)
set_option maxRecDepth 20000 in
theorem gL_law_X7_fretInfo : GoodIn wsL_law (wsV RL 25 RX7 yX7_fretInfo wsX7_fretInfo) := goodIn_app (goodIn_of _ (by decide +kernel)) ggL_law_X7_fretInfo
set_option maxRecDepth 20000 in
theorem ggL_law_X6_mostFor : GoodIn wsL_law wsX6_mostFor := goodIn_r _ [307, 15, 96, 259, 111, 112, 29, 113, 105, 99, 2, 100, 308, 309, 310, 311, 312, 313, 314, 315, 316, 317, 318, 106, 107, 108, 109, 44, 110, 175, 176, 177, 178, 171, 172, 173, 174, 45, 179, 180, 181, 182, 842, 843, 844, 858, 859, 860, 861, 862, 863, 876, 877, 878, 879] (by decide +kernel) (by decide +kernel)
set_option maxRecDepth 20000 in
theorem gL_law_X6_mostFor : GoodIn wsL_law (wsV RL 26 RX6 yX6_mostFor wsX6_mostFor) := goodIn_app (goodIn_of _ (by decide +kernel)) ggL_law_X6_mostFor
set_option maxRecDepth 20000 in
theorem ggL_law_X7_mostFor : GoodIn wsL_law wsX7_mostFor := goodIn_r _ [322, 270, 271, 272, 5, 273, 80, 200, 201, 202, 207, 208, 209, 210, 236, 237, 238, 239, 240, 241, 242, 845, 846, 847, 848, 849, 850, 851, 852, 853, 854, 855, 856, 857] (by decide +kernel) (by decide +kernel)
set_option maxRecDepth 20000 in
theorem gL_law_X7_mostFor : GoodIn wsL_law (wsV RL 30 RX7 yX7_mostFor wsX7_mostFor) := goodIn_app (goodIn_of _ (by decide +kernel)) ggL_law_X7_mostFor
set_option maxRecDepth 20000 in
theorem ggL_law_X6_tune : GoodIn wsL_law wsX6_tune := goodIn_r _ [326, 327, 19, 15, 278, 328, 329, 330, 2, 331, 98, 99, 100, 114, 115, 116, 18, 117, 118, 119, 120, 121, 122, 123, 70, 124, 125, 126, 14, 127, 30, 34, 38, 40, 128, 129, 130, 131, 132, 133, 134, 135, 136, 29, 137, 105, 44, 138, 45, 46, 139, 140, 141, 33, 142, 54, 143, 55, 56, 57, 58, 59, 60, 144, 145, 146, 37, 147, 148, 64, 149, 65, 842, 843, 844, 858, 859, 860, 861, 862, 863, 880, 881, 882, 883, 884, 885, 886, 864, 865, 866, 876, 877, 878, 879, 887, 888, 889] (by decide +kernel) (by decide +kernel)
set_option maxRecDepth 20000 in
theorem gL_law_X6_tune : GoodIn wsL_law (wsV RL 31 RX6 yX6_tune wsX6_tune) := goodIn_app (goodIn_of _ (by decide +kernel)) ggL_law_X6_tune
set_option maxRecDepth 20000 in
theorem ggL_law_X7_tune : GoodIn wsL_law wsX7_tune := goodIn_r _ [335, 336, 337, 338, 5, 339, 200, 201, 202, 211, 212, 213, 214, 215, 81, 80, 228, 229, 230, 231, 88, 89, 90, 91, 845, 846, 847, 848, 849, 850, 851, 852, 853, 854, 855, 856, 857] (by decide +kernel) (by decide +kernel)
set_option maxRecDepth 20000 in
theorem gL_law_X7_tune : GoodIn wsL_law (wsV RL 34 RX7 yX7_tune wsX7_tune) := goodIn_app (goodIn_of _ (by decide +kernel)) ggL_law_X7_tune
