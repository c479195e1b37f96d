set_option maxRecDepth 20000 in
theorem ggL_law_X8_fewest : GoodIn wsL_law wsX8_fewest := goodIn_r _ [926, 171, 176, 121, 131, 138, 412, 558, 559, 560, 5, 561, 251, 177, 178, 179, 413, 414, 415, 416, 482, 483, 484, 485, 411, 139, 417, 418, 419, 420, 421, 130, 117, 126, 136, 137, 132, 135, 134, 422, 423, 424, 425, 426, 427, 428, 429, 120, 125, 119, 116, 118, 124, 430, 431, 432, 433, 434, 435, 436, 122, 437, 438, 439, 440, 133, 441, 442, 443, 444, 445, 446, 447, 448, 449, 140, 142, 141, 143, 450, 451, 452, 453, 269, 454, 455, 456, 457, 458, 459, 460, 461, 144, 225, 462, 463, 464, 465, 466, 467, 468, 469, 470, 471, 472, 473, 574, 575, 576, 971, 972, 973, 974, 975, 976, 977, 978, 979, 980, 981, 982, 983, 984, 985, 986, 987, 988, 989, 990, 991, 992, 993, 994, 995, 996, 997, 998, 999, 1000, 1001, 1002, 1003, 1004, 1005, 1006, 1007, 1008, 1009, 1010, 1011, 1012, 1013, 1014, 1015, 1016] (by decide +kernel) (by decide +kernel)
set_option maxRecDepth 20000 in
theorem gL_law_X8_fewest : GoodIn wsL_law (wsV RL 152 RX8 yX8_fewest wsX8_fewest) := goodIn_app (goodIn_of _ (by decide +kernel)) ggL_law_X8_fewest
set_option maxRecDepth 20000 in
theorem ggL_law_X8_file : GoodIn wsL_law wsX8_file := goodIn_r _ [951, 171, 121, 128, 129, 122, 952, 953, 5, 954, 197, 229, 177, 178, 179, 198, 199, 200, 201, 176, 971, 972, 973, 974, 975, 976, 977, 978, 979, 980, 981, 982, 983, 984, 985, 986, 987, 988, 989, 990, 991, 992, 993, 994, 995, 996, 997, 998, 999, 1000, 1001, 1002, 1003, 1004, 1005, 1006, 1007, 1008, 1009, 1010, 1011, 1012, 1013, 1014, 1015, 1016] (by decide +kernel) (by decide +kernel)
set_option maxRecDepth 20000 in
theorem gL_law_X8_file : GoodIn wsL_law (wsV RL 160 RX8 yX8_file wsX8_file) := goodIn_app (goodIn_of _ (by decide +kernel)) ggL_law_X8_file
set_option maxRecDepth 20000 in
theorem ggL_law_X8_filed : GoodIn wsL_law wsX8_filed := goodIn_r _ [964, 171, 128, 129, 952, 953, 5, 954, 197, 229, 177, 178, 179, 971, 972, 973, 974, 975, 976, 977, 978, 979, 980, 981, 982, 983, 984, 985, 986, 987, 988, 989, 990, 991, 992, 993, 994, 995, 996, 997, 998, 999, 1000, 1001, 1002, 1003, 1004, 1005, 1006, 1007, 1008, 1009, 1010, 1011, 1012, 1013, 1014, 1015, 1016] (by decide +kernel) (by decide +kernel)
set_option maxRecDepth 20000 in
theorem gL_law_X8_filed : GoodIn wsL_law (wsV RL 165 RX8 yX8_filed wsX8_filed) := goodIn_app (goodIn_of _ (by decide +kernel)) ggL_law_X8_filed
set_option maxRecDepth 20000 in
theorem ggL_law_X8_init : GoodIn wsL_law wsX8_init := goodIn_r _ [114, 115, 12, 13, 32, 116, 117, 118, 119, 120, 121, 122, 123, 124, 125, 126, 127, 128, 129, 130, 131, 132, 133, 134, 135, 136, 137, 138, 139, 140, 141, 142, 143, 6, 144, 145, 146, 147, 148, 149, 150, 971, 972, 973, 974, 975, 976, 977, 978, 979, 980, 981, 982, 983, 984, 985, 986, 987, 988, 989, 990, 991, 992, 993, 994, 995, 996, 997, 998, 999, 1000, 1001, 1002, 1003, 1004, 1005, 1006, 1007, 1008, 1009, 1010, 1011, 1012, 1013, 1014, 1015, 1016] (by decide +kernel) (by decide +kernel)
set_option maxRecDepth 20000 in
theorem gL_law_X8_init : GoodIn wsL_law (wsX8_init) := ggL_law_X8_init
set_option maxRecDepth 20000 in
theorem ggL_law_X8_level : GoodIn wsL_law wsX8_level := goodIn_r _ [684, 171, 421, 136, 422, 558, 559, 560, 5, 561, 251, 177, 178, 179, 413, 414, 415, 416, 176, 482, 483, 484, 485, 411, 139, 417, 418, 419, 420, 412, 130, 117, 131, 126, 137, 138, 132, 135, 134, 423, 424, 425, 426, 427, 428, 429, 120, 125, 119, 116, 118, 124, 430, 431, 432, 433, 434, 435, 436, 121, 122, 437, 438, 439, 440, 133, 441, 442, 443, 444, 445, 446, 447, 448, 449, 140, 142, 141, 143, 450, 451, 452, 453, 269, 454, 455, 456, 457, 458, 459, 460, 461, 144, 225, 462, 463, 464, 465, 466, 467, 468, 469, 470, 471, 472, 473, 971, 972, 973, 974, 975, 976, 977, 978, 979, 980, 981, 982, 983, 984, 985, 986, 987, 988, 989, 990, 991, 992, 993, 994, 995, 996, 997, 998, 999, 1000, 1001, 1002, 1003, 1004, 1005, 1006, 1007, 1008, 1009, 1010, 1011, 1012, 1013, 1014, 1015, 1016] (by decide +kernel) (by decide +kernel)
set_option maxRecDepth 20000 in
theorem gL_law_X8_level : GoodIn wsL_law (wsV RL 98 RX8 yX8_level wsX8_level) := goodIn_app (goodIn_of _ (by decide +kernel)) ggL_law_X8_level
set_option maxRecDepth 20000 in
theorem ggL_law_X8_limit : GoodIn wsL_law wsX8_limit := goodIn_r _ [212, 171, 172, 116, 198, 199, 200, 5, 201, 176, 177, 178, 179, 971, 972, 973, 974, 975, 976, 977, 978, 979, 980, 981, 982, 983, 984, 985, 986, 987, 988, 989, 990, 991, 992, 993, 994, 995, 996, 997, 998, 999, 1000, 1001, 1002, 1003, 1004, 1005, 1006, 1007, 1008, 1009, 1010, 1011, 1012, 1013, 1014, 1015, 1016] (by decide +kernel) (by decide +kernel)
set_option maxRecDepth 20000 in
theorem gL_law_X8_limit : GoodIn wsL_law (wsV RL 37 RX8 yX8_limit wsX8_limit) := goodIn_app (goodIn_of _ (by decide +kernel)) ggL_law_X8_limit
