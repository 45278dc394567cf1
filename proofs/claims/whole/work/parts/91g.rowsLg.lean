set_option maxRecDepth 20000 in
theorem ggL_law_X6_slowest : GoodIn wsL_law wsX6_slowest := goodIn_r _ [670, 15, 329, 330, 2, 331, 98, 99, 100, 671, 672, 673, 14, 674, 675, 649, 650, 651, 34, 652, 653, 314, 654, 424, 405, 406, 33, 407, 60, 425, 426, 427, 428, 40, 655, 517, 518, 519, 54, 400, 353, 354, 355, 59, 842, 843, 844, 858, 859, 860, 861, 862, 863, 880, 881, 882, 883, 884, 885, 886] (by decide +kernel) (by decide +kernel)
set_option maxRecDepth 20000 in
theorem gL_law_X6_slowest : GoodIn wsL_law (wsV RL 85 RX6 yX6_slowest wsX6_slowest) := goodIn_app (goodIn_of _ (by decide +kernel)) ggL_law_X6_slowest
set_option maxRecDepth 20000 in
theorem ggL_law_X7_slowest : GoodIn wsL_law wsX7_slowest := goodIn_r _ [679, 660, 661, 5, 662, 337, 338, 339, 200, 201, 202, 663, 664, 665, 666, 533, 534, 535, 536, 228, 229, 230, 231, 80, 364, 365, 366, 367, 220, 221, 222, 223, 224, 225, 226, 227, 232, 233, 234, 235, 207, 208, 209, 210, 236, 237, 238, 239, 240, 241, 242, 464, 465, 466, 467, 444, 445, 446, 447, 456, 457, 458, 459, 845, 846, 847, 848, 849, 850, 851, 852, 853, 854, 855, 856, 857] (by decide +kernel) (by decide +kernel)
set_option maxRecDepth 20000 in
theorem gL_law_X7_slowest : GoodIn wsL_law (wsV RL 88 RX7 yX7_slowest wsX7_slowest) := goodIn_app (goodIn_of _ (by decide +kernel)) ggL_law_X7_slowest
set_option maxRecDepth 20000 in
theorem ggL_law_X6_played : GoodIn wsL_law wsX6_played := goodIn_r _ [683, 15, 684, 685, 98, 99, 2, 100, 686, 687, 688, 37, 689, 690, 691, 692, 693, 148, 64, 694, 695, 696, 697, 698, 699, 700, 701, 65, 842, 843, 844, 858, 859, 860, 861, 862, 863, 887, 888, 889] (by decide +kernel) (by decide +kernel)
set_option maxRecDepth 20000 in
theorem gL_law_X6_played : GoodIn wsL_law (wsV RL 89 RX6 yX6_played wsX6_played) := goodIn_app (goodIn_of _ (by decide +kernel)) ggL_law_X6_played
set_option maxRecDepth 20000 in
theorem ggL_law_X7_played : GoodIn wsL_law wsX7_played := goodIn_r _ [705, 80, 200, 201, 5, 202, 845, 846, 847, 848, 849, 850, 851, 852, 853, 854, 855, 856, 857] (by decide +kernel) (by decide +kernel)
set_option maxRecDepth 20000 in
theorem gL_law_X7_played : GoodIn wsL_law (wsV RL 92 RX7 yX7_played wsX7_played) := goodIn_app (goodIn_of _ (by decide +kernel)) ggL_law_X7_played
set_option maxRecDepth 20000 in
theorem ggL_law_X6_count : GoodIn wsL_law wsX6_count := goodIn_r _ [709, 15, 96, 97, 591, 278, 684, 685, 710, 578, 19, 711, 23, 712, 606, 607, 608, 14, 609, 610, 417, 418, 419, 420, 421, 422, 423, 34, 424, 405, 406, 33, 407, 60, 425, 426, 427, 428, 40, 429, 430, 431, 432, 433, 434, 435, 713, 714, 715, 716, 717, 488, 489, 490, 58, 55, 718, 719, 720, 721, 57, 842, 843, 844, 858, 859, 860, 861, 862, 863, 876, 877, 878, 879, 887, 888, 889, 864, 865, 866, 867, 868, 869, 870, 871, 872, 873, 874, 875, 880, 881, 882, 883, 884, 885, 886] (by decide +kernel) (by decide +kernel)
set_option maxRecDepth 20000 in
theorem gL_law_X6_count : GoodIn wsL_law (wsV RL 93 RX6 yX6_count wsX6_count) := goodIn_app (goodIn_of _ (by decide +kernel)) ggL_law_X6_count
set_option maxRecDepth 20000 in
theorem ggL_law_X7_count : GoodIn wsL_law wsX7_count := goodIn_r _ [725, 80, 215, 726, 628, 629, 630, 5, 631, 460, 461, 462, 463, 464, 465, 466, 467, 444, 445, 446, 447, 456, 457, 458, 459, 468, 469, 470, 727, 728, 729, 730, 228, 229, 230, 231, 500, 501, 502, 503, 224, 225, 226, 227, 232, 233, 234, 235, 207, 208, 209, 210, 236, 237, 238, 239, 240, 241, 242, 200, 201, 202, 845, 846, 847, 848, 849, 850, 851, 852, 853, 854, 855, 856, 857] (by decide +kernel) (by decide +kernel)
set_option maxRecDepth 20000 in
theorem gL_law_X7_count : GoodIn wsL_law (wsV RL 96 RX7 yX7_count wsX7_count) := goodIn_app (goodIn_of _ (by decide +kernel)) ggL_law_X7_count
