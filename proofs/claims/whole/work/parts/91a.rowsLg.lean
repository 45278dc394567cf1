set_option maxRecDepth 20000 in
theorem ggL_law_X6_init : GoodIn wsL_law wsX6_init := goodIn_r _ [8, 9, 10, 11, 12, 13, 14, 15, 16, 17, 18, 19, 20, 21, 22, 23, 24, 25, 26, 27, 28, 29, 30, 31, 32, 33, 34, 35, 36, 37, 38, 39, 40, 41, 42, 43, 44, 45, 46, 47, 48, 49, 50, 51, 52, 53, 54, 55, 56, 57, 58, 59, 60, 61, 62, 63, 64, 65, 66, 67, 68, 69, 70, 71, 72, 73, 74, 75, 858, 859, 860, 861, 862, 863, 842, 843, 844, 864, 865, 866, 867, 868, 869, 870, 871, 872, 873, 874, 875, 876, 877, 878, 879, 880, 881, 882, 883, 884, 885, 886, 887, 888, 889] (by decide +kernel) (by decide +kernel)
set_option maxRecDepth 20000 in
theorem gL_law_X6_init : GoodIn wsL_law (wsX6_init) := ggL_law_X6_init
set_option maxRecDepth 20000 in
theorem ggL_law_X7_init : GoodIn wsL_law wsX7_init := goodIn_r _ [78, 79, 10, 11, 39, 80, 81, 82, 83, 84, 85, 86, 87, 88, 89, 90, 5, 91, 845, 846, 847, 848, 849, 850, 851, 852, 853, 854, 855, 856, 857] (by decide +kernel) (by decide +kernel)
set_option maxRecDepth 20000 in
theorem gL_law_X7_init : GoodIn wsL_law (wsX7_init) := ggL_law_X7_init
set_option maxRecDepth 20000 in
theorem ggL_law_X6_fret : GoodIn wsL_law wsX6_fret := goodIn_r _ [95, 15, 96, 97, 19, 98, 99, 2, 100, 101, 102, 103, 29, 104, 105, 106, 107, 108, 109, 44, 110, 111, 112, 113, 114, 115, 116, 18, 117, 118, 119, 120, 121, 122, 123, 70, 124, 125, 126, 14, 127, 30, 34, 38, 40, 128, 129, 130, 131, 132, 133, 134, 135, 136, 137, 138, 45, 46, 139, 140, 141, 33, 142, 54, 143, 55, 56, 57, 58, 59, 60, 144, 145, 146, 37, 147, 148, 64, 149, 65, 150, 151, 152, 153, 154, 155, 156, 157, 158, 159, 160, 161, 162, 163, 164, 165, 166, 167, 168, 169, 170, 171, 172, 173, 174, 175, 176, 177, 178, 179, 180, 181, 182, 183, 184, 185, 186, 187, 188, 189, 190, 191, 192, 193, 194, 195, 842, 843, 844, 858, 859, 860, 861, 862, 863, 876, 877, 878, 879, 864, 865, 866, 880, 881, 882, 883, 884, 885, 886, 887, 888, 889] (by decide +kernel) (by decide +kernel)
set_option maxRecDepth 20000 in
theorem gL_law_X6_fret : GoodIn wsL_law (wsV RL 13 RX6 yX6_fret wsX6_fret) := goodIn_app (goodIn_of _ (by decide +kernel)) ggL_law_X6_fret
set_option maxRecDepth 20000 in
theorem ggL_law_X7_fret : GoodIn wsL_law wsX7_fret := goodIn_r _ [199, 80, 200, 201, 5, 202, 203, 204, 205, 206, 207, 208, 209, 210, 211, 212, 213, 214, 215, 81, 216, 217, 218, 219, 83, 220, 221, 222, 223, 224, 225, 226, 227, 228, 229, 230, 231, 232, 233, 234, 235, 236, 237, 238, 239, 240, 241, 242, 243, 244, 245, 246, 88, 89, 90, 91, 247, 248, 249, 250, 251, 252, 253, 254, 845, 846, 847, 848, 849, 850, 851, 852, 853, 854, 855, 856, 857] (by decide +kernel) (by decide +kernel)
set_option maxRecDepth 20000 in
theorem gL_law_X7_fret : GoodIn wsL_law (wsV RL 17 RX7 yX7_fret wsX7_fret) := goodIn_app (goodIn_of _ (by decide +kernel)) ggL_law_X7_fret
set_option maxRecDepth 20000 in
theorem ggL_law_X6_level : GoodIn wsL_law wsX6_level := goodIn_r _ [258, 15, 96, 19, 259, 111, 112, 29, 113, 105, 99, 2, 100, 98, 260, 172, 173, 174, 45, 110, 114, 115, 116, 18, 117, 118, 119, 120, 121, 122, 123, 70, 124, 125, 126, 14, 127, 30, 34, 38, 40, 128, 129, 130, 131, 132, 133, 134, 135, 136, 137, 44, 138, 46, 139, 140, 141, 33, 142, 54, 143, 55, 56, 57, 58, 59, 60, 144, 145, 146, 37, 147, 148, 64, 149, 65, 261, 262, 263, 264, 265, 163, 164, 165, 166, 167, 168, 169, 170, 171, 106, 107, 108, 109, 175, 176, 177, 178, 179, 180, 181, 182, 183, 184, 185, 186, 187, 188, 189, 190, 191, 192, 193, 194, 195, 842, 843, 844, 858, 859, 860, 861, 862, 863, 876, 877, 878, 879, 864, 865, 866, 880, 881, 882, 883, 884, 885, 886, 887, 888, 889] (by decide +kernel) (by decide +kernel)
set_option maxRecDepth 20000 in
theorem gL_law_X6_level : GoodIn wsL_law (wsV RL 18 RX6 yX6_level wsX6_level) := goodIn_app (goodIn_of _ (by decide +kernel)) ggL_law_X6_level
set_option maxRecDepth 20000 in
theorem ggL_law_X7_level : GoodIn wsL_law wsX7_level := goodIn_r _ [269, 270, 271, 272, 5, 273, 80, 200, 201, 202, 207, 208, 209, 210, 211, 212, 213, 214, 215, 81, 216, 217, 218, 219, 83, 220, 221, 222, 223, 224, 225, 226, 227, 228, 229, 230, 231, 232, 233, 234, 235, 236, 237, 238, 239, 240, 241, 242, 243, 244, 245, 246, 247, 248, 249, 250, 251, 252, 253, 254, 845, 846, 847, 848, 849, 850, 851, 852, 853, 854, 855, 856, 857] (by decide +kernel) (by decide +kernel)
set_option maxRecDepth 20000 in
theorem gL_law_X7_level : GoodIn wsL_law (wsV RL 21 RX7 yX7_level wsX7_level) := goodIn_app (goodIn_of _ (by decide +kernel)) ggL_law_X7_level
