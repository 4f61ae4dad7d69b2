set_option maxRecDepth 20000 in
theorem ggL_law_X5_tell : GoodIn wsL_law wsX5_tell := goodIn_r _ [824, 38, 37, 876, 877, 878, 879, 880, 881, 882, 883, 884, 885, 886, 887] (by decide +kernel) (by decide +kernel)
set_option maxRecDepth 20000 in
theorem gL_law_X5_tell : GoodIn wsL_law (wsV RL 144 RX5 yX5_tell wsX5_tell) := goodIn_app (goodIn_of _ (by decide +kernel)) ggL_law_X5_tell
set_option maxRecDepth 20000 in
theorem ggL_law_X6_tell : GoodIn wsL_law wsX6_tell := goodIn_r _ [828, 829, 115, 888, 889, 890, 891, 892, 893, 894, 895, 896, 897, 898, 899, 900, 901, 902, 903, 904, 905, 906, 907, 908, 909, 910, 911, 912, 913, 914, 915, 916] (by decide +kernel) (by decide +kernel)
set_option maxRecDepth 20000 in
theorem gL_law_X6_tell : GoodIn wsL_law (wsV RL 147 RX6 yX6_tell wsX6_tell) := goodIn_app (goodIn_of _ (by decide +kernel)) ggL_law_X6_tell
set_option maxRecDepth 20000 in
theorem ggL_law_X5_check : GoodIn wsL_law wsX5_check := goodIn_r _ [833, 38, 15, 130, 37, 31, 131, 834, 204, 205, 206, 273, 274, 2, 275, 406, 407, 408, 18, 409, 61, 367, 410, 357, 358, 359, 60, 360, 361, 362, 363, 364, 365, 366, 368, 309, 310, 14, 311, 312, 313, 314, 315, 45, 47, 316, 317, 318, 319, 44, 49, 320, 321, 322, 323, 324, 325, 326, 327, 369, 370, 371, 372, 46, 373, 170, 171, 172, 374, 375, 376, 377, 378, 379, 380, 381, 51, 52, 356, 876, 877, 878, 879, 880, 881, 882, 883, 884, 885, 886, 887, 917, 918, 919, 920, 921, 922, 923, 924, 925, 926, 927, 928, 929] (by decide +kernel) (by decide +kernel)
set_option maxRecDepth 20000 in
theorem gL_law_X5_check : GoodIn wsL_law (wsV RL 148 RX5 yX5_check wsX5_check) := goodIn_app (goodIn_of _ (by decide +kernel)) ggL_law_X5_check
set_option maxRecDepth 20000 in
theorem ggL_law_X6_check : GoodIn wsL_law wsX6_check := goodIn_r _ [838, 829, 140, 115, 124, 280, 281, 5, 282, 415, 416, 417, 418, 386, 387, 388, 389, 106, 107, 292, 390, 391, 392, 393, 336, 337, 338, 339, 104, 340, 341, 342, 343, 103, 219, 220, 221, 394, 395, 396, 397, 109, 215, 216, 217, 218, 105, 398, 399, 400, 401, 332, 333, 334, 335, 888, 889, 890, 891, 892, 893, 894, 895, 896, 897, 898, 899, 900, 901, 902, 903, 904, 905, 906, 907, 908, 909, 910, 911, 912, 913, 914, 915, 916] (by decide +kernel) (by decide +kernel)
set_option maxRecDepth 20000 in
theorem gL_law_X6_check : GoodIn wsL_law (wsV RL 151 RX6 yX6_check wsX6_check) := goodIn_app (goodIn_of _ (by decide +kernel)) ggL_law_X6_check
set_option maxRecDepth 20000 in
theorem ggL_law_X5_keep : GoodIn wsL_law wsX5_keep := goodIn_r _ [842, 20, 15, 21, 19, 22, 130, 843, 844, 845, 14, 846, 44, 45, 46, 49, 203, 204, 205, 206, 50, 51, 52, 53, 54, 55, 705, 706, 707, 18, 708, 60, 709, 876, 877, 878, 879, 880, 881, 882, 883, 884, 885, 886, 887, 917, 918, 919, 920, 921, 922, 923, 924, 925, 926, 927, 928, 929] (by decide +kernel) (by decide +kernel)
set_option maxRecDepth 20000 in
theorem gL_law_X5_keep : GoodIn wsL_law (wsV RL 152 RX5 yX5_keep wsX5_keep) := goodIn_app (goodIn_of _ (by decide +kernel)) ggL_law_X5_keep
set_option maxRecDepth 20000 in
theorem ggL_law_X6_keep : GoodIn wsL_law wsX6_keep := goodIn_r _ [850, 851, 140, 852, 853, 854, 5, 855, 125, 292, 109, 103, 104, 105, 106, 107, 108, 856, 857, 858, 859, 111, 888, 889, 890, 891, 892, 893, 894, 895, 896, 897, 898, 899, 900, 901, 902, 903, 904, 905, 906, 907, 908, 909, 910, 911, 912, 913, 914, 915, 916] (by decide +kernel) (by decide +kernel)
set_option maxRecDepth 20000 in
theorem gL_law_X6_keep : GoodIn wsL_law (wsV RL 155 RX6 yX6_keep wsX6_keep) := goodIn_app (goodIn_of _ (by decide +kernel)) ggL_law_X6_keep
set_option maxRecDepth 20000 in
theorem ggL_law_X5_back : GoodIn wsL_law wsX5_back := goodIn_r _ [863, 22, 15, 20, 19, 21, 130, 756, 757, 758, 2, 759, 39, 843, 844, 845, 14, 846, 44, 45, 46, 49, 203, 204, 205, 206, 50, 51, 52, 53, 54, 55, 705, 706, 707, 18, 708, 60, 709, 876, 877, 878, 879, 880, 881, 882, 883, 884, 885, 886, 887, 917, 918, 919, 920, 921, 922, 923, 924, 925, 926, 927, 928, 929] (by decide +kernel) (by decide +kernel)
set_option maxRecDepth 20000 in
theorem gL_law_X5_back : GoodIn wsL_law (wsV RL 156 RX5 yX5_back wsX5_back) := goodIn_app (goodIn_of _ (by decide +kernel)) ggL_law_X5_back
set_option maxRecDepth 20000 in
theorem ggL_law_X6_back : GoodIn wsL_law wsX6_back := goodIn_r _ [867, 851, 140, 771, 772, 773, 5, 774, 775, 852, 853, 854, 855, 125, 292, 109, 103, 104, 105, 106, 107, 108, 856, 857, 858, 859, 111, 888, 889, 890, 891, 892, 893, 894, 895, 896, 897, 898, 899, 900, 901, 902, 903, 904, 905, 906, 907, 908, 909, 910, 911, 912, 913, 914, 915, 916] (by decide +kernel) (by decide +kernel)
set_option maxRecDepth 20000 in
theorem gL_law_X6_back : GoodIn wsL_law (wsV RL 159 RX6 yX6_back wsX6_back) := goodIn_app (goodIn_of _ (by decide +kernel)) ggL_law_X6_back
