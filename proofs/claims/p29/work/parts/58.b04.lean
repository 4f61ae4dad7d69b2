set_option maxRecDepth 20000 in
theorem ggL_law_X5_length : GoodIn wsL_law wsX5_length := goodIn_r _ [432, 19, 433, 434, 435, 18, 436, 61, 367, 60, 437, 325, 326, 327, 876, 877, 878, 879, 880, 881, 882, 883, 884, 885, 886, 887, 928, 929, 917, 918, 919, 920, 921, 922, 923, 924, 925, 926, 927] (by decide +kernel) (by decide +kernel)
set_option maxRecDepth 20000 in
theorem gL_law_X5_length : GoodIn wsL_law (wsV RL 77 RX5 yX5_length wsX5_length) := goodIn_app (goodIn_of _ (by decide +kernel)) ggL_law_X5_length
set_option maxRecDepth 20000 in
theorem ggL_law_X6_length : GoodIn wsL_law wsX6_length := goodIn_r _ [441, 108, 442, 443, 444, 5, 445, 140, 888, 889, 890, 891, 892, 893, 894, 895, 896, 897, 898, 899, 900, 901, 902, 903, 904, 905, 906, 907, 908, 909, 910, 911, 912, 913, 914, 915, 916] (by decide +kernel) (by decide +kernel)
set_option maxRecDepth 20000 in
theorem gL_law_X6_length : GoodIn wsL_law (wsV RL 80 RX6 yX6_length wsX6_length) := goodIn_app (goodIn_of _ (by decide +kernel)) ggL_law_X6_length
set_option maxRecDepth 20000 in
theorem ggL_law_X5_squares : GoodIn wsL_law wsX5_squares := goodIn_r _ [449, 19, 450, 451, 452, 18, 453, 454, 455, 456, 457, 61, 363, 364, 365, 366, 367, 60, 368, 309, 310, 14, 311, 312, 313, 314, 315, 45, 47, 316, 317, 318, 319, 44, 49, 320, 321, 322, 323, 324, 325, 326, 327, 876, 877, 878, 879, 880, 881, 882, 883, 884, 885, 886, 887, 928, 929, 917, 918, 919, 920, 921, 922, 923, 924, 925, 926, 927] (by decide +kernel) (by decide +kernel)
set_option maxRecDepth 20000 in
theorem gL_law_X5_squares : GoodIn wsL_law (wsV RL 81 RX5 yX5_squares wsX5_squares) := goodIn_app (goodIn_of _ (by decide +kernel)) ggL_law_X5_squares
set_option maxRecDepth 20000 in
theorem ggL_law_X6_squares : GoodIn wsL_law wsX6_squares := goodIn_r _ [461, 108, 462, 463, 464, 5, 465, 390, 391, 392, 393, 140, 336, 337, 338, 339, 292, 104, 340, 341, 342, 343, 103, 219, 220, 221, 888, 889, 890, 891, 892, 893, 894, 895, 896, 897, 898, 899, 900, 901, 902, 903, 904, 905, 906, 907, 908, 909, 910, 911, 912, 913, 914, 915, 916] (by decide +kernel) (by decide +kernel)
set_option maxRecDepth 20000 in
theorem gL_law_X6_squares : GoodIn wsL_law (wsV RL 85 RX6 yX6_squares wsX6_squares) := goodIn_app (goodIn_of _ (by decide +kernel)) ggL_law_X6_squares
set_option maxRecDepth 20000 in
theorem ggL_law_X5_fewest : GoodIn wsL_law wsX5_fewest := goodIn_r _ [469, 30, 470, 471, 472, 29, 473, 86, 474, 475, 476, 477, 73, 76, 478, 479, 480, 14, 481, 44, 482, 483, 484, 485, 74, 486, 96, 97, 98, 487, 313, 314, 315, 45, 47, 488, 489, 490, 491, 81, 492, 493, 494, 321, 322, 323, 324, 325, 326, 327, 495, 496, 497, 498, 77, 499, 500, 501, 502, 503, 504, 505, 506, 507, 508, 509, 379, 380, 381, 51, 52, 510, 370, 371, 372, 46, 373, 170, 171, 172, 511, 512, 513, 514, 78, 79, 515, 516, 517, 518, 876, 877, 878, 879, 880, 881, 882, 883, 884, 885, 886, 887, 933, 934, 935, 936, 937, 938, 939, 940, 941, 942, 943, 917, 918, 919, 920, 921, 922, 923, 924, 925, 926, 927] (by decide +kernel) (by decide +kernel)
set_option maxRecDepth 20000 in
theorem gL_law_X5_fewest : GoodIn wsL_law (wsV RL 86 RX5 yX5_fewest wsX5_fewest) := goodIn_app (goodIn_of _ (by decide +kernel)) ggL_law_X5_fewest
set_option maxRecDepth 20000 in
theorem ggL_law_X6_fewest : GoodIn wsL_law wsX6_fewest := goodIn_r _ [522, 523, 524, 525, 5, 526, 122, 527, 528, 529, 530, 140, 121, 120, 119, 118, 106, 117, 215, 216, 217, 218, 105, 219, 220, 221, 332, 333, 334, 335, 394, 395, 396, 397, 292, 109, 104, 531, 532, 533, 534, 336, 337, 338, 339, 340, 341, 342, 343, 103, 535, 536, 537, 538, 107, 888, 889, 890, 891, 892, 893, 894, 895, 896, 897, 898, 899, 900, 901, 902, 903, 904, 905, 906, 907, 908, 909, 910, 911, 912, 913, 914, 915, 916] (by decide +kernel) (by decide +kernel)
set_option maxRecDepth 20000 in
theorem gL_law_X6_fewest : GoodIn wsL_law (wsV RL 89 RX6 yX6_fewest wsX6_fewest) := goodIn_app (goodIn_of _ (by decide +kernel)) ggL_law_X6_fewest
set_option maxRecDepth 20000 in
theorem ggL_law_X5_many : GoodIn wsL_law wsX5_many := goodIn_r _ [542, 30, 470, 471, 472, 29, 473, 86, 474, 475, 476, 477, 73, 76, 478, 479, 480, 14, 481, 44, 482, 483, 484, 485, 74, 486, 96, 97, 98, 487, 313, 314, 315, 45, 47, 488, 489, 490, 491, 81, 492, 493, 494, 321, 322, 323, 324, 325, 326, 327, 495, 496, 497, 498, 77, 499, 500, 501, 502, 503, 504, 505, 506, 507, 508, 509, 379, 380, 381, 51, 52, 510, 370, 371, 372, 46, 373, 170, 171, 172, 511, 512, 513, 514, 78, 79, 515, 516, 517, 518, 543, 544, 545, 546, 85, 547, 548, 549, 550, 80, 551, 552, 553, 554, 555, 556, 557, 558, 84, 559, 560, 561, 562, 563, 564, 565, 566, 876, 877, 878, 879, 880, 881, 882, 883, 884, 885, 886, 887, 933, 934, 935, 936, 937, 938, 939, 940, 941, 942, 943, 917, 918, 919, 920, 921, 922, 923, 924, 925, 926, 927] (by decide +kernel) (by decide +kernel)
set_option maxRecDepth 20000 in
theorem gL_law_X5_many : GoodIn wsL_law (wsV RL 90 RX5 yX5_many wsX5_many) := goodIn_app (goodIn_of _ (by decide +kernel)) ggL_law_X5_many
set_option maxRecDepth 20000 in
theorem ggL_law_X6_many : GoodIn wsL_law wsX6_many := goodIn_r _ [570, 122, 523, 524, 525, 5, 526, 527, 528, 529, 530, 140, 121, 120, 119, 118, 106, 117, 215, 216, 217, 218, 105, 219, 220, 221, 332, 333, 334, 335, 394, 395, 396, 397, 292, 109, 104, 531, 532, 533, 534, 336, 337, 338, 339, 340, 341, 342, 343, 103, 535, 536, 537, 538, 107, 888, 889, 890, 891, 892, 893, 894, 895, 896, 897, 898, 899, 900, 901, 902, 903, 904, 905, 906, 907, 908, 909, 910, 911, 912, 913, 914, 915, 916] (by decide +kernel) (by decide +kernel)
set_option maxRecDepth 20000 in
theorem gL_law_X6_many : GoodIn wsL_law (wsV RL 93 RX6 yX6_many wsX6_many) := goodIn_app (goodIn_of _ (by decide +kernel)) ggL_law_X6_many
