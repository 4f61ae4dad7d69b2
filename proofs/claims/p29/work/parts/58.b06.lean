set_option maxRecDepth 20000 in
theorem ggL_law_X5_early : GoodIn wsL_law wsX5_early := goodIn_r _ [662, 15, 181, 146, 147, 148, 14, 149, 44, 640, 641, 642, 2, 643, 308, 309, 310, 311, 312, 313, 314, 315, 45, 47, 316, 317, 318, 319, 49, 320, 321, 322, 323, 324, 325, 326, 327, 424, 370, 371, 372, 46, 373, 170, 171, 172, 644, 629, 630, 876, 877, 878, 879, 880, 881, 882, 883, 884, 885, 886, 887, 917, 918, 919, 920, 921, 922, 923, 924, 925, 926, 927] (by decide +kernel) (by decide +kernel)
set_option maxRecDepth 20000 in
theorem gL_law_X5_early : GoodIn wsL_law (wsV RL 111 RX5 yX5_early wsX5_early) := goodIn_app (goodIn_of _ (by decide +kernel)) ggL_law_X5_early
set_option maxRecDepth 20000 in
theorem ggL_law_X6_early : GoodIn wsL_law wsX6_early := goodIn_r _ [666, 157, 158, 159, 5, 160, 140, 215, 216, 217, 218, 105, 219, 220, 221, 336, 337, 338, 339, 292, 104, 340, 341, 342, 343, 103, 655, 656, 657, 658, 394, 395, 396, 397, 109, 888, 889, 890, 891, 892, 893, 894, 895, 896, 897, 898, 899, 900, 901, 902, 903, 904, 905, 906, 907, 908, 909, 910, 911, 912, 913, 914, 915, 916] (by decide +kernel) (by decide +kernel)
set_option maxRecDepth 20000 in
theorem gL_law_X6_early : GoodIn wsL_law (wsV RL 114 RX6 yX6_early wsX6_early) := goodIn_app (goodIn_of _ (by decide +kernel)) ggL_law_X6_early
set_option maxRecDepth 20000 in
theorem ggL_law_X5_late : GoodIn wsL_law wsX5_late := goodIn_r _ [670, 15, 307, 146, 147, 148, 14, 149, 44, 617, 618, 2, 619, 640, 641, 642, 643, 308, 309, 310, 311, 312, 313, 314, 315, 45, 47, 316, 317, 318, 319, 49, 320, 321, 322, 323, 324, 325, 326, 327, 424, 370, 371, 372, 46, 373, 170, 171, 172, 644, 629, 630, 876, 877, 878, 879, 880, 881, 882, 883, 884, 885, 886, 887, 917, 918, 919, 920, 921, 922, 923, 924, 925, 926, 927] (by decide +kernel) (by decide +kernel)
set_option maxRecDepth 20000 in
theorem gL_law_X5_late : GoodIn wsL_law (wsV RL 115 RX5 yX5_late wsX5_late) := goodIn_app (goodIn_of _ (by decide +kernel)) ggL_law_X5_late
set_option maxRecDepth 20000 in
theorem ggL_law_X6_late : GoodIn wsL_law wsX6_late := goodIn_r _ [674, 157, 158, 159, 5, 160, 140, 332, 333, 334, 335, 215, 216, 217, 218, 105, 219, 220, 221, 336, 337, 338, 339, 292, 104, 340, 341, 342, 343, 103, 655, 656, 657, 658, 394, 395, 396, 397, 109, 888, 889, 890, 891, 892, 893, 894, 895, 896, 897, 898, 899, 900, 901, 902, 903, 904, 905, 906, 907, 908, 909, 910, 911, 912, 913, 914, 915, 916] (by decide +kernel) (by decide +kernel)
set_option maxRecDepth 20000 in
theorem gL_law_X6_late : GoodIn wsL_law (wsV RL 118 RX6 yX6_late wsX6_late) := goodIn_app (goodIn_of _ (by decide +kernel)) ggL_law_X6_late
set_option maxRecDepth 20000 in
theorem ggL_law_X5_rule : GoodIn wsL_law wsX5_rule := goodIn_r _ [678, 31, 19, 679, 680, 681, 18, 682, 60, 61, 683, 684, 685, 686, 367, 368, 309, 310, 14, 311, 312, 313, 314, 315, 45, 47, 316, 317, 318, 319, 44, 49, 320, 321, 322, 323, 324, 325, 326, 327, 369, 370, 371, 372, 46, 373, 170, 171, 172, 687, 96, 97, 98, 688, 479, 480, 481, 689, 690, 691, 692, 378, 379, 380, 381, 51, 52, 693, 694, 695, 696, 697, 698, 699, 700, 701, 702, 703, 704, 705, 706, 707, 708, 709, 204, 205, 206, 433, 434, 435, 436, 437, 876, 877, 878, 879, 880, 881, 882, 883, 884, 885, 886, 887, 928, 929, 917, 918, 919, 920, 921, 922, 923, 924, 925, 926, 927] (by decide +kernel) (by decide +kernel)
set_option maxRecDepth 20000 in
theorem gL_law_X5_rule : GoodIn wsL_law (wsV RL 119 RX5 yX5_rule wsX5_rule) := goodIn_app (goodIn_of _ (by decide +kernel)) ggL_law_X5_rule
set_option maxRecDepth 20000 in
theorem ggL_law_X6_rule : GoodIn wsL_law wsX6_rule := goodIn_r _ [713, 140, 124, 108, 336, 337, 338, 5, 339, 292, 104, 340, 341, 342, 343, 103, 219, 220, 221, 394, 395, 396, 397, 109, 390, 391, 392, 393, 714, 715, 716, 717, 531, 532, 533, 534, 215, 216, 217, 218, 105, 332, 333, 334, 335, 718, 719, 720, 721, 442, 443, 444, 445, 888, 889, 890, 891, 892, 893, 894, 895, 896, 897, 898, 899, 900, 901, 902, 903, 904, 905, 906, 907, 908, 909, 910, 911, 912, 913, 914, 915, 916] (by decide +kernel) (by decide +kernel)
set_option maxRecDepth 20000 in
theorem gL_law_X6_rule : GoodIn wsL_law (wsV RL 122 RX6 yX6_rule wsX6_rule) := goodIn_app (goodIn_of _ (by decide +kernel)) ggL_law_X6_rule
set_option maxRecDepth 20000 in
theorem ggL_law_X5_better : GoodIn wsL_law wsX5_better := goodIn_r _ [725, 19, 726, 406, 407, 408, 18, 409, 61, 367, 410, 357, 358, 359, 60, 360, 361, 362, 363, 364, 365, 366, 368, 309, 310, 14, 311, 312, 313, 314, 315, 45, 47, 316, 317, 318, 319, 44, 49, 320, 321, 322, 323, 324, 325, 326, 327, 369, 370, 371, 372, 46, 373, 170, 171, 172, 374, 375, 376, 377, 378, 379, 380, 381, 51, 52, 727, 728, 729, 730, 731, 434, 435, 436, 437, 732, 733, 734, 735, 454, 455, 456, 457, 736, 876, 877, 878, 879, 880, 881, 882, 883, 884, 885, 886, 887, 928, 929, 917, 918, 919, 920, 921, 922, 923, 924, 925, 926, 927] (by decide +kernel) (by decide +kernel)
set_option maxRecDepth 20000 in
theorem gL_law_X5_better : GoodIn wsL_law (wsV RL 123 RX5 yX5_better wsX5_better) := goodIn_app (goodIn_of _ (by decide +kernel)) ggL_law_X5_better
set_option maxRecDepth 20000 in
theorem ggL_law_X6_better : GoodIn wsL_law wsX6_better := goodIn_r _ [740, 741, 412, 413, 5, 414, 108, 415, 416, 417, 418, 140, 386, 387, 388, 389, 106, 107, 292, 390, 391, 392, 393, 336, 337, 338, 339, 104, 340, 341, 342, 343, 103, 219, 220, 221, 394, 395, 396, 397, 109, 215, 216, 217, 218, 105, 398, 399, 400, 401, 332, 333, 334, 335, 742, 743, 744, 745, 462, 463, 464, 465, 442, 443, 444, 445, 888, 889, 890, 891, 892, 893, 894, 895, 896, 897, 898, 899, 900, 901, 902, 903, 904, 905, 906, 907, 908, 909, 910, 911, 912, 913, 914, 915, 916] (by decide +kernel) (by decide +kernel)
set_option maxRecDepth 20000 in
theorem gL_law_X6_better : GoodIn wsL_law (wsV RL 126 RX6 yX6_better wsX6_better) := goodIn_app (goodIn_of _ (by decide +kernel)) ggL_law_X6_better
