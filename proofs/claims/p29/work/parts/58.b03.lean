set_option maxRecDepth 20000 in
theorem ggL_law_X5_put : GoodIn wsL_law wsX5_put := goodIn_r _ [347, 15, 19, 131, 146, 147, 148, 14, 149, 44, 273, 274, 2, 275, 876, 877, 878, 879, 880, 881, 882, 883, 884, 885, 886, 887, 928, 929, 917, 918, 919, 920, 921, 922, 923, 924, 925, 926, 927] (by decide +kernel) (by decide +kernel)
set_option maxRecDepth 20000 in
theorem gL_law_X5_put : GoodIn wsL_law (wsV RL 61 RX5 yX5_put wsX5_put) := goodIn_app (goodIn_of _ (by decide +kernel)) ggL_law_X5_put
set_option maxRecDepth 20000 in
theorem ggL_law_X6_put : GoodIn wsL_law wsX6_put := goodIn_r _ [351, 108, 157, 158, 159, 5, 160, 140, 280, 281, 282, 888, 889, 890, 891, 892, 893, 894, 895, 896, 897, 898, 899, 900, 901, 902, 903, 904, 905, 906, 907, 908, 909, 910, 911, 912, 913, 914, 915, 916] (by decide +kernel) (by decide +kernel)
set_option maxRecDepth 20000 in
theorem gL_law_X6_put : GoodIn wsL_law (wsV RL 64 RX6 yX6_put wsX6_put) := goodIn_app (goodIn_of _ (by decide +kernel)) ggL_law_X6_put
set_option maxRecDepth 20000 in
theorem ggL_law_X5_cause : GoodIn wsL_law wsX5_cause := goodIn_r _ [355, 15, 19, 146, 147, 148, 14, 149, 44, 356, 357, 358, 18, 359, 60, 61, 360, 361, 362, 363, 364, 365, 366, 367, 368, 309, 310, 311, 312, 313, 314, 315, 45, 47, 316, 317, 318, 319, 49, 320, 321, 322, 323, 324, 325, 326, 327, 369, 370, 371, 372, 46, 373, 170, 171, 172, 374, 375, 376, 377, 378, 379, 380, 381, 51, 52, 876, 877, 878, 879, 880, 881, 882, 883, 884, 885, 886, 887, 917, 918, 919, 920, 921, 922, 923, 924, 925, 926, 927, 928, 929] (by decide +kernel) (by decide +kernel)
set_option maxRecDepth 20000 in
theorem gL_law_X5_cause : GoodIn wsL_law (wsV RL 65 RX5 yX5_cause wsX5_cause) := goodIn_app (goodIn_of _ (by decide +kernel)) ggL_law_X5_cause
set_option maxRecDepth 20000 in
theorem ggL_law_X6_cause : GoodIn wsL_law wsX6_cause := goodIn_r _ [385, 108, 157, 158, 159, 5, 160, 140, 386, 387, 388, 389, 106, 107, 292, 390, 391, 392, 393, 336, 337, 338, 339, 104, 340, 341, 342, 343, 103, 219, 220, 221, 394, 395, 396, 397, 109, 215, 216, 217, 218, 105, 398, 399, 400, 401, 332, 333, 334, 335, 888, 889, 890, 891, 892, 893, 894, 895, 896, 897, 898, 899, 900, 901, 902, 903, 904, 905, 906, 907, 908, 909, 910, 911, 912, 913, 914, 915, 916] (by decide +kernel) (by decide +kernel)
set_option maxRecDepth 20000 in
theorem gL_law_X6_cause : GoodIn wsL_law (wsV RL 68 RX6 yX6_cause wsX6_cause) := goodIn_app (goodIn_of _ (by decide +kernel)) ggL_law_X6_cause
set_option maxRecDepth 20000 in
theorem ggL_law_X5_clash : GoodIn wsL_law wsX5_clash := goodIn_r _ [405, 19, 406, 407, 408, 18, 409, 61, 367, 410, 357, 358, 359, 60, 360, 361, 362, 363, 364, 365, 366, 368, 309, 310, 14, 311, 312, 313, 314, 315, 45, 47, 316, 317, 318, 319, 44, 49, 320, 321, 322, 323, 324, 325, 326, 327, 369, 370, 371, 372, 46, 373, 170, 171, 172, 374, 375, 376, 377, 378, 379, 380, 381, 51, 52, 876, 877, 878, 879, 880, 881, 882, 883, 884, 885, 886, 887, 928, 929, 917, 918, 919, 920, 921, 922, 923, 924, 925, 926, 927] (by decide +kernel) (by decide +kernel)
set_option maxRecDepth 20000 in
theorem gL_law_X5_clash : GoodIn wsL_law (wsV RL 69 RX5 yX5_clash wsX5_clash) := goodIn_app (goodIn_of _ (by decide +kernel)) ggL_law_X5_clash
set_option maxRecDepth 20000 in
theorem ggL_law_X6_clash : GoodIn wsL_law wsX6_clash := goodIn_r _ [414, 108, 415, 416, 417, 5, 418, 140, 386, 387, 388, 389, 106, 107, 292, 390, 391, 392, 393, 336, 337, 338, 339, 104, 340, 341, 342, 343, 103, 219, 220, 221, 394, 395, 396, 397, 109, 215, 216, 217, 218, 105, 398, 399, 400, 401, 332, 333, 334, 335, 888, 889, 890, 891, 892, 893, 894, 895, 896, 897, 898, 899, 900, 901, 902, 903, 904, 905, 906, 907, 908, 909, 910, 911, 912, 913, 914, 915, 916] (by decide +kernel) (by decide +kernel)
set_option maxRecDepth 20000 in
theorem gL_law_X6_clash : GoodIn wsL_law (wsV RL 72 RX6 yX6_clash wsX6_clash) := goodIn_app (goodIn_of _ (by decide +kernel)) ggL_law_X6_clash
set_option maxRecDepth 20000 in
theorem ggL_law_X5_station : GoodIn wsL_law wsX5_station := goodIn_r _ [422, 19, 15, 423, 364, 365, 18, 366, 61, 367, 60, 308, 309, 310, 14, 311, 312, 313, 314, 315, 45, 47, 316, 317, 318, 319, 44, 49, 320, 321, 322, 323, 324, 325, 326, 327, 424, 370, 371, 372, 46, 373, 170, 171, 172, 876, 877, 878, 879, 880, 881, 882, 883, 884, 885, 886, 887, 928, 929, 917, 918, 919, 920, 921, 922, 923, 924, 925, 926, 927] (by decide +kernel) (by decide +kernel)
set_option maxRecDepth 20000 in
theorem gL_law_X5_station : GoodIn wsL_law (wsV RL 73 RX5 yX5_station wsX5_station) := goodIn_app (goodIn_of _ (by decide +kernel)) ggL_law_X5_station
set_option maxRecDepth 20000 in
theorem ggL_law_X6_station : GoodIn wsL_law wsX6_station := goodIn_r _ [428, 108, 390, 391, 392, 5, 393, 140, 336, 337, 338, 339, 292, 104, 340, 341, 342, 343, 103, 219, 220, 221, 394, 395, 396, 397, 109, 888, 889, 890, 891, 892, 893, 894, 895, 896, 897, 898, 899, 900, 901, 902, 903, 904, 905, 906, 907, 908, 909, 910, 911, 912, 913, 914, 915, 916] (by decide +kernel) (by decide +kernel)
set_option maxRecDepth 20000 in
theorem gL_law_X6_station : GoodIn wsL_law (wsV RL 76 RX6 yX6_station wsX6_station) := goodIn_app (goodIn_of _ (by decide +kernel)) ggL_law_X6_station
