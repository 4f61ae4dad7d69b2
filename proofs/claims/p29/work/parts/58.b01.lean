set_option maxRecDepth 20000 in
theorem ggL_law_X5_ahead : GoodIn wsL_law wsX5_ahead := goodIn_r _ [180, 15, 181, 26, 146, 147, 148, 14, 149, 44, 182, 183, 184, 25, 185, 66, 67, 68, 186, 187, 188, 189, 190, 191, 192, 193, 194, 195, 196, 197, 198, 50, 199, 200, 201, 202, 51, 203, 204, 205, 206, 52, 207, 208, 209, 210, 876, 877, 878, 879, 880, 881, 882, 883, 884, 885, 886, 887, 917, 918, 919, 920, 921, 922, 923, 924, 925, 926, 927, 930, 931, 932] (by decide +kernel) (by decide +kernel)
set_option maxRecDepth 20000 in
theorem gL_law_X5_ahead : GoodIn wsL_law (wsV RL 28 RX5 yX5_ahead wsX5_ahead) := goodIn_app (goodIn_of _ (by decide +kernel)) ggL_law_X5_ahead
set_option maxRecDepth 20000 in
theorem ggL_law_X6_ahead : GoodIn wsL_law wsX6_ahead := goodIn_r _ [214, 105, 157, 158, 159, 5, 160, 140, 215, 216, 217, 218, 219, 220, 221, 222, 223, 224, 225, 116, 226, 110, 888, 889, 890, 891, 892, 893, 894, 895, 896, 897, 898, 899, 900, 901, 902, 903, 904, 905, 906, 907, 908, 909, 910, 911, 912, 913, 914, 915, 916] (by decide +kernel) (by decide +kernel)
set_option maxRecDepth 20000 in
theorem gL_law_X6_ahead : GoodIn wsL_law (wsV RL 31 RX6 yX6_ahead wsX6_ahead) := goodIn_app (goodIn_of _ (by decide +kernel)) ggL_law_X6_ahead
set_option maxRecDepth 20000 in
theorem ggL_law_X5_free : GoodIn wsL_law wsX5_free := goodIn_r _ [230, 15, 146, 147, 148, 14, 149, 44, 231, 232, 233, 234, 50, 199, 200, 201, 202, 51, 203, 204, 205, 206, 52, 207, 208, 209, 210, 876, 877, 878, 879, 880, 881, 882, 883, 884, 885, 886, 887, 917, 918, 919, 920, 921, 922, 923, 924, 925, 926, 927] (by decide +kernel) (by decide +kernel)
set_option maxRecDepth 20000 in
theorem gL_law_X5_free : GoodIn wsL_law (wsV RL 32 RX5 yX5_free wsX5_free) := goodIn_app (goodIn_of _ (by decide +kernel)) ggL_law_X5_free
set_option maxRecDepth 20000 in
theorem ggL_law_X6_free : GoodIn wsL_law wsX6_free := goodIn_r _ [238, 105, 157, 158, 159, 5, 160, 140, 219, 220, 221, 888, 889, 890, 891, 892, 893, 894, 895, 896, 897, 898, 899, 900, 901, 902, 903, 904, 905, 906, 907, 908, 909, 910, 911, 912, 913, 914, 915, 916] (by decide +kernel) (by decide +kernel)
set_option maxRecDepth 20000 in
theorem gL_law_X6_free : GoodIn wsL_law (wsV RL 35 RX6 yX6_free wsX6_free) := goodIn_app (goodIn_of _ (by decide +kernel)) ggL_law_X6_free
set_option maxRecDepth 20000 in
theorem ggL_law_X5_ring : GoodIn wsL_law wsX5_ring := goodIn_r _ [242, 26, 243, 244, 876, 877, 878, 879, 880, 881, 882, 883, 884, 885, 886, 887, 930, 931, 932] (by decide +kernel) (by decide +kernel)
set_option maxRecDepth 20000 in
theorem gL_law_X5_ring : GoodIn wsL_law (wsV RL 36 RX5 yX5_ring wsX5_ring) := goodIn_app (goodIn_of _ (by decide +kernel)) ggL_law_X5_ring
set_option maxRecDepth 20000 in
theorem ggL_law_X6_ring : GoodIn wsL_law wsX6_ring := goodIn_r _ [248, 226, 110, 888, 889, 890, 891, 892, 893, 894, 895, 896, 897, 898, 899, 900, 901, 902, 903, 904, 905, 906, 907, 908, 909, 910, 911, 912, 913, 914, 915, 916] (by decide +kernel) (by decide +kernel)
set_option maxRecDepth 20000 in
theorem gL_law_X6_ring : GoodIn wsL_law (wsV RL 40 RX6 yX6_ring wsX6_ring) := goodIn_app (goodIn_of _ (by decide +kernel)) ggL_law_X6_ring
set_option maxRecDepth 20000 in
theorem ggL_law_X5_pair : GoodIn wsL_law wsX5_pair := goodIn_r _ [252, 15, 146, 147, 148, 14, 149, 44, 253, 254, 255, 256, 53, 54, 257, 258, 259, 260, 261, 262, 263, 876, 877, 878, 879, 880, 881, 882, 883, 884, 885, 886, 887, 917, 918, 919, 920, 921, 922, 923, 924, 925, 926, 927] (by decide +kernel) (by decide +kernel)
set_option maxRecDepth 20000 in
theorem gL_law_X5_pair : GoodIn wsL_law (wsV RL 41 RX5 yX5_pair wsX5_pair) := goodIn_app (goodIn_of _ (by decide +kernel)) ggL_law_X5_pair
set_option maxRecDepth 20000 in
theorem ggL_law_X6_pair : GoodIn wsL_law wsX6_pair := goodIn_r _ [267, 106, 157, 158, 159, 5, 160, 140, 888, 889, 890, 891, 892, 893, 894, 895, 896, 897, 898, 899, 900, 901, 902, 903, 904, 905, 906, 907, 908, 909, 910, 911, 912, 913, 914, 915, 916] (by decide +kernel) (by decide +kernel)
set_option maxRecDepth 20000 in
theorem gL_law_X6_pair : GoodIn wsL_law (wsV RL 44 RX6 yX6_pair wsX6_pair) := goodIn_app (goodIn_of _ (by decide +kernel)) ggL_law_X6_pair
