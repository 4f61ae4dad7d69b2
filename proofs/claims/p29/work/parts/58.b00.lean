set_option maxRecDepth 20000 in
theorem ggL_law_X5_init : GoodIn wsL_law wsX5_init := goodIn_r _ [8, 9, 10, 11, 12, 13, 14, 15, 16, 17, 18, 19, 20, 21, 22, 23, 24, 25, 26, 27, 28, 29, 30, 31, 32, 33, 34, 35, 36, 37, 38, 39, 40, 41, 42, 43, 44, 45, 46, 47, 48, 49, 50, 51, 52, 53, 54, 55, 56, 57, 58, 59, 60, 61, 62, 63, 64, 65, 66, 67, 68, 69, 70, 71, 72, 73, 74, 75, 76, 77, 78, 79, 80, 81, 82, 83, 84, 85, 86, 87, 88, 89, 90, 91, 92, 93, 94, 95, 96, 97, 98, 917, 918, 919, 920, 921, 922, 923, 924, 925, 926, 927, 876, 877, 878, 879, 880, 881, 882, 883, 884, 885, 886, 887, 928, 929, 930, 931, 932, 933, 934, 935, 936, 937, 938, 939, 940, 941, 942, 943, 944, 945, 946] (by decide +kernel) (by decide +kernel)
set_option maxRecDepth 20000 in
theorem gL_law_X5_init : GoodIn wsL_law (wsX5_init) := ggL_law_X5_init
set_option maxRecDepth 20000 in
theorem ggL_law_X6_init : GoodIn wsL_law wsX6_init := goodIn_r _ [101, 102, 10, 11, 36, 103, 104, 105, 106, 107, 108, 109, 110, 111, 112, 113, 114, 115, 116, 75, 117, 118, 119, 120, 121, 83, 122, 123, 124, 125, 888, 889, 890, 891, 892, 893, 894, 895, 896, 897, 898, 899, 900, 901, 902, 903, 904, 905, 906, 907, 908, 909, 910, 911, 912, 913, 914, 915, 916] (by decide +kernel) (by decide +kernel)
set_option maxRecDepth 20000 in
theorem gL_law_X6_init : GoodIn wsL_law (wsX6_init) := ggL_law_X6_init
set_option maxRecDepth 20000 in
theorem ggL_law_X5_task : GoodIn wsL_law wsX5_task := goodIn_r _ [129, 15, 130, 19, 131, 132, 133, 134, 14, 135, 44, 49, 50, 51, 52, 53, 54, 55, 876, 877, 878, 879, 880, 881, 882, 883, 884, 885, 886, 887, 917, 918, 919, 920, 921, 922, 923, 924, 925, 926, 927, 928, 929] (by decide +kernel) (by decide +kernel)
set_option maxRecDepth 20000 in
theorem gL_law_X5_task : GoodIn wsL_law (wsV RL 13 RX5 yX5_task wsX5_task) := goodIn_app (goodIn_of _ (by decide +kernel)) ggL_law_X5_task
set_option maxRecDepth 20000 in
theorem ggL_law_X6_task : GoodIn wsL_law wsX6_task := goodIn_r _ [139, 140, 103, 105, 107, 108, 106, 888, 889, 890, 891, 892, 893, 894, 895, 896, 897, 898, 899, 900, 901, 902, 903, 904, 905, 906, 907, 908, 909, 910, 911, 912, 913, 914, 915, 916] (by decide +kernel) (by decide +kernel)
set_option maxRecDepth 20000 in
theorem gL_law_X6_task : GoodIn wsL_law (wsV RL 17 RX6 yX6_task wsX6_task) := goodIn_app (goodIn_of _ (by decide +kernel)) ggL_law_X6_task
set_option maxRecDepth 20000 in
theorem ggL_law_X5_time : GoodIn wsL_law wsX5_time := goodIn_r _ [144, 15, 145, 146, 147, 148, 14, 149, 44, 150, 151, 2, 152, 876, 877, 878, 879, 880, 881, 882, 883, 884, 885, 886, 887, 917, 918, 919, 920, 921, 922, 923, 924, 925, 926, 927] (by decide +kernel) (by decide +kernel)
set_option maxRecDepth 20000 in
theorem gL_law_X5_time : GoodIn wsL_law (wsV RL 18 RX5 yX5_time wsX5_time) := goodIn_app (goodIn_of _ (by decide +kernel)) ggL_law_X5_time
set_option maxRecDepth 20000 in
theorem ggL_law_X6_time : GoodIn wsL_law wsX6_time := goodIn_r _ [156, 103, 157, 158, 159, 5, 160, 140, 161, 162, 163, 888, 889, 890, 891, 892, 893, 894, 895, 896, 897, 898, 899, 900, 901, 902, 903, 904, 905, 906, 907, 908, 909, 910, 911, 912, 913, 914, 915, 916] (by decide +kernel) (by decide +kernel)
set_option maxRecDepth 20000 in
theorem gL_law_X6_time : GoodIn wsL_law (wsV RL 22 RX6 yX6_time wsX6_time) := goodIn_app (goodIn_of _ (by decide +kernel)) ggL_law_X6_time
set_option maxRecDepth 20000 in
theorem ggL_law_X5_share : GoodIn wsL_law wsX5_share := goodIn_r _ [167, 15, 168, 150, 151, 2, 152, 169, 170, 171, 14, 172, 47, 876, 877, 878, 879, 880, 881, 882, 883, 884, 885, 886, 887, 917, 918, 919, 920, 921, 922, 923, 924, 925, 926, 927] (by decide +kernel) (by decide +kernel)
set_option maxRecDepth 20000 in
theorem gL_law_X5_share : GoodIn wsL_law (wsV RL 23 RX5 yX5_share wsX5_share) := goodIn_app (goodIn_of _ (by decide +kernel)) ggL_law_X5_share
set_option maxRecDepth 20000 in
theorem ggL_law_X6_share : GoodIn wsL_law wsX6_share := goodIn_r _ [176, 104, 161, 162, 5, 163, 888, 889, 890, 891, 892, 893, 894, 895, 896, 897, 898, 899, 900, 901, 902, 903, 904, 905, 906, 907, 908, 909, 910, 911, 912, 913, 914, 915, 916] (by decide +kernel) (by decide +kernel)
set_option maxRecDepth 20000 in
theorem gL_law_X6_share : GoodIn wsL_law (wsV RL 27 RX6 yX6_share wsX6_share) := goodIn_app (goodIn_of _ (by decide +kernel)) ggL_law_X6_share
