set_option maxRecDepth 20000 in
theorem ggL_law_X6_run : GoodIn wsL_law wsX6_run := goodIn_r _ [590, 15, 591, 592, 19, 98, 99, 2, 100, 114, 115, 116, 18, 117, 118, 119, 120, 121, 122, 123, 70, 124, 125, 126, 14, 127, 30, 34, 38, 40, 128, 129, 130, 131, 132, 133, 134, 135, 136, 29, 137, 105, 44, 138, 45, 46, 139, 140, 141, 33, 142, 54, 143, 55, 56, 57, 58, 59, 60, 144, 145, 146, 37, 147, 148, 64, 149, 65, 593, 594, 595, 596, 597, 598, 599, 600, 396, 397, 398, 399, 395, 313, 314, 315, 400, 353, 354, 355, 401, 402, 181, 403, 424, 405, 406, 407, 601, 602, 603, 604, 605, 193, 194, 195, 606, 607, 608, 609, 610, 417, 418, 419, 420, 421, 422, 423, 425, 426, 427, 428, 429, 430, 431, 432, 433, 434, 435, 842, 843, 844, 858, 859, 860, 861, 862, 863, 864, 865, 866, 876, 877, 878, 879, 880, 881, 882, 883, 884, 885, 886, 887, 888, 889] (by decide +kernel) (by decide +kernel)
set_option maxRecDepth 20000 in
theorem gL_law_X6_run : GoodIn wsL_law (wsV RL 72 RX6 yX6_run wsX6_run) := goodIn_app (goodIn_of _ (by decide +kernel)) ggL_law_X6_run
set_option maxRecDepth 20000 in
theorem ggL_law_X7_run : GoodIn wsL_law wsX7_run := goodIn_r _ [614, 80, 586, 200, 201, 5, 202, 211, 212, 213, 214, 215, 81, 615, 616, 617, 618, 619, 620, 621, 622, 228, 229, 230, 231, 220, 221, 222, 223, 224, 225, 226, 227, 232, 233, 234, 235, 207, 208, 209, 210, 236, 237, 238, 239, 240, 241, 242, 541, 542, 543, 544, 364, 365, 366, 367, 444, 445, 446, 447, 623, 624, 625, 626, 627, 456, 457, 458, 459, 628, 629, 630, 631, 460, 461, 462, 463, 464, 465, 466, 467, 468, 469, 470, 845, 846, 847, 848, 849, 850, 851, 852, 853, 854, 855, 856, 857] (by decide +kernel) (by decide +kernel)
set_option maxRecDepth 20000 in
theorem gL_law_X7_run : GoodIn wsL_law (wsV RL 75 RX7 yX7_run wsX7_run) := goodIn_app (goodIn_of _ (by decide +kernel)) ggL_law_X7_run
set_option maxRecDepth 20000 in
theorem ggL_law_X6_ticksTo : GoodIn wsL_law wsX6_ticksTo := goodIn_r _ [635, 15, 329, 330, 2, 331, 98, 99, 100, 512, 513, 514, 636, 637, 638, 14, 639, 34, 597, 598, 599, 33, 600, 56, 59, 396, 397, 398, 399, 395, 313, 314, 315, 400, 353, 354, 355, 401, 402, 181, 403, 424, 405, 406, 407, 60, 425, 426, 427, 428, 40, 601, 602, 603, 604, 842, 843, 844, 858, 859, 860, 861, 862, 863, 880, 881, 882, 883, 884, 885, 886] (by decide +kernel) (by decide +kernel)
set_option maxRecDepth 20000 in
theorem gL_law_X6_ticksTo : GoodIn wsL_law (wsV RL 76 RX6 yX6_ticksTo wsX6_ticksTo) := goodIn_app (goodIn_of _ (by decide +kernel)) ggL_law_X6_ticksTo
set_option maxRecDepth 20000 in
theorem ggL_law_X7_ticksTo : GoodIn wsL_law wsX7_ticksTo := goodIn_r _ [643, 337, 338, 5, 339, 200, 201, 202, 530, 531, 532, 619, 620, 621, 622, 228, 229, 230, 231, 80, 220, 221, 222, 223, 224, 225, 226, 227, 232, 233, 234, 235, 207, 208, 209, 210, 236, 237, 238, 239, 240, 241, 242, 541, 542, 543, 544, 364, 365, 366, 367, 444, 445, 446, 447, 456, 457, 458, 459, 623, 624, 625, 626, 627, 845, 846, 847, 848, 849, 850, 851, 852, 853, 854, 855, 856, 857] (by decide +kernel) (by decide +kernel)
set_option maxRecDepth 20000 in
theorem gL_law_X7_ticksTo : GoodIn wsL_law (wsV RL 79 RX7 yX7_ticksTo wsX7_ticksTo) := goodIn_app (goodIn_of _ (by decide +kernel)) ggL_law_X7_ticksTo
set_option maxRecDepth 20000 in
theorem ggL_law_X6_beat : GoodIn wsL_law wsX6_beat := goodIn_r _ [647, 15, 329, 330, 2, 331, 98, 99, 100, 512, 513, 514, 648, 649, 650, 14, 651, 34, 652, 653, 314, 654, 424, 405, 406, 33, 407, 60, 425, 426, 427, 428, 40, 655, 517, 518, 519, 54, 400, 353, 354, 355, 59, 842, 843, 844, 858, 859, 860, 861, 862, 863, 880, 881, 882, 883, 884, 885, 886] (by decide +kernel) (by decide +kernel)
set_option maxRecDepth 20000 in
theorem gL_law_X6_beat : GoodIn wsL_law (wsV RL 80 RX6 yX6_beat wsX6_beat) := goodIn_app (goodIn_of _ (by decide +kernel)) ggL_law_X6_beat
set_option maxRecDepth 20000 in
theorem ggL_law_X7_beat : GoodIn wsL_law wsX7_beat := goodIn_r _ [659, 660, 661, 5, 662, 337, 338, 339, 200, 201, 202, 530, 531, 532, 663, 664, 665, 666, 533, 534, 535, 536, 228, 229, 230, 231, 80, 364, 365, 366, 367, 220, 221, 222, 223, 224, 225, 226, 227, 232, 233, 234, 235, 207, 208, 209, 210, 236, 237, 238, 239, 240, 241, 242, 464, 465, 466, 467, 444, 445, 446, 447, 456, 457, 458, 459, 845, 846, 847, 848, 849, 850, 851, 852, 853, 854, 855, 856, 857] (by decide +kernel) (by decide +kernel)
set_option maxRecDepth 20000 in
theorem gL_law_X7_beat : GoodIn wsL_law (wsV RL 84 RX7 yX7_beat wsX7_beat) := goodIn_app (goodIn_of _ (by decide +kernel)) ggL_law_X7_beat
