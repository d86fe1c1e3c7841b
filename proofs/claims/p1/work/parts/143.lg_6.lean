set_option maxRecDepth 20000 in
theorem gL_law_X9_fair : GoodIn wsL_law (wsV RL 133 RX9 yX9_fair wsX9_fair) := goodIn_app (goodIn_of _ (by decide +kernel)) ggL_law_X9_fair
set_option maxRecDepth 20000 in
theorem ggL_law_X8_share : GoodIn wsL_law wsX8_share := goodIn_r _ [870, 15, 871, 207, 872, 39, 873, 141, 226, 227, 228, 14, 229, 159, 230, 231, 2, 232, 842, 843, 844, 38, 845, 108, 110, 106, 846, 109, 847, 442, 443, 22, 444, 69, 66, 445, 67, 70, 446, 68, 447, 448, 449, 450, 451, 452, 453, 454, 455, 456, 457, 458, 344, 345, 346, 55, 848, 511, 496, 512, 849, 388, 389, 390, 160, 850, 851, 852, 853, 107, 854, 855, 856, 857, 858, 473, 474, 475, 874, 875, 876, 877, 878, 532, 533, 534, 879, 518, 519, 880, 409, 410, 411, 412, 413, 414, 881, 882, 883, 884, 885, 886, 887, 888, 889, 1001, 1002, 1003, 1004, 1005, 1006, 1007, 1008, 1009, 1038, 1039, 1040, 1041, 1042, 1043, 1044, 1045, 1046, 1047, 1073, 1074, 1075, 1076, 1077, 1050, 1051, 1052, 1053, 1054] (by decide +kernel) (by decide +kernel)
set_option maxRecDepth 20000 in
theorem gL_law_X8_share : GoodIn wsL_law (wsV RL 134 RX8 yX8_share wsX8_share) := goodIn_app (goodIn_of _ (by decide +kernel)) ggL_law_X8_share
set_option maxRecDepth 20000 in
theorem ggL_law_X9_share : GoodIn wsL_law wsX9_share := goodIn_r _ [893, 189, 894, 197, 895, 190, 135, 241, 242, 243, 5, 244, 245, 246, 247, 863, 864, 865, 866, 580, 588, 589, 590, 591, 400, 401, 402, 403, 592, 593, 594, 595, 121, 596, 597, 598, 599, 600, 601, 602, 351, 352, 353, 354, 126, 127, 128, 355, 603, 604, 605, 606, 124, 896, 897, 898, 419, 420, 421, 1010, 1011, 1012, 1013, 1014, 1015, 1016, 1017, 1018, 1019, 1020, 1021, 1022, 1023, 1024, 1025, 1026, 1027, 1028, 1029, 1030, 1031, 1032, 1033, 1034, 1035, 1036, 1037] (by decide +kernel) (by decide +kernel)
set_option maxRecDepth 20000 in
theorem gL_law_X9_share : GoodIn wsL_law (wsV RL 138 RX9 yX9_share wsX9_share) := goodIn_app (goodIn_of _ (by decide +kernel)) ggL_law_X9_share
set_option maxRecDepth 20000 in
theorem ggL_law_X8_line : GoodIn wsL_law wsX8_line := goodIn_r _ [902, 43, 903, 904, 905, 2, 906, 230, 231, 232, 907, 908, 909, 42, 910, 911, 912, 453, 454, 455, 913, 914, 915, 916, 917, 918, 116, 919, 920, 921, 922, 923, 924, 115, 925, 409, 410, 411, 412, 413, 414, 926, 927, 928, 929, 930, 931, 932, 933, 934, 935, 936, 937, 938, 939, 940, 941, 942, 518, 14, 519, 943, 944, 945, 946, 947, 470, 471, 1001, 1002, 1003, 1004, 1005, 1006, 1007, 1008, 1009, 1078, 1079, 1080, 1081, 1082, 1038, 1039, 1040, 1041, 1042, 1043, 1044, 1045, 1046, 1047] (by decide +kernel) (by decide +kernel)
set_option maxRecDepth 20000 in
theorem gL_law_X8_line : GoodIn wsL_law (wsV RL 139 RX8 yX8_line wsX8_line) := goodIn_app (goodIn_of _ (by decide +kernel)) ggL_law_X8_line
set_option maxRecDepth 20000 in
theorem ggL_law_X9_line : GoodIn wsL_law wsX9_line := goodIn_r _ [951, 189, 190, 952, 953, 5, 954, 245, 246, 247, 955, 956, 957, 958, 959, 580, 960, 961, 962, 963, 964, 123, 136, 419, 420, 421, 965, 966, 967, 968, 121, 596, 597, 598, 969, 970, 971, 1010, 1011, 1012, 1013, 1014, 1015, 1016, 1017, 1018, 1019, 1020, 1021, 1022, 1023, 1024, 1025, 1026, 1027, 1028, 1029, 1030, 1031, 1032, 1033, 1034, 1035, 1036, 1037] (by decide +kernel) (by decide +kernel)
set_option maxRecDepth 20000 in
theorem gL_law_X9_line : GoodIn wsL_law (wsV RL 142 RX9 yX9_line wsX9_line) := goodIn_app (goodIn_of _ (by decide +kernel)) ggL_law_X9_line
set_option maxRecDepth 20000 in
theorem ggL_law_X8_lineAt : GoodIn wsL_law wsX8_lineAt := goodIn_r _ [975, 43, 904, 905, 2, 906, 230, 231, 232, 907, 908, 909, 42, 910, 911, 912, 453, 454, 455, 913, 914, 915, 916, 917, 918, 116, 919, 920, 921, 922, 923, 924, 115, 925, 409, 410, 411, 412, 413, 414, 926, 927, 928, 929, 930, 931, 932, 933, 934, 935, 936, 937, 938, 939, 940, 941, 942, 518, 14, 519, 943, 944, 945, 946, 947, 470, 471, 976, 977, 978, 979, 1001, 1002, 1003, 1004, 1005, 1006, 1007, 1008, 1009, 1078, 1079, 1080, 1081, 1082, 1038, 1039, 1040, 1041, 1042, 1043, 1044, 1045, 1046, 1047] (by decide +kernel) (by decide +kernel)
set_option maxRecDepth 20000 in
theorem gL_law_X8_lineAt : GoodIn wsL_law (wsV RL 143 RX8 yX8_lineAt wsX8_lineAt) := goodIn_app (goodIn_of _ (by decide +kernel)) ggL_law_X8_lineAt
set_option maxRecDepth 20000 in
theorem ggL_law_X9_lineAt : GoodIn wsL_law wsX9_lineAt := goodIn_r _ [983, 189, 190, 959, 960, 136, 952, 953, 5, 954, 245, 246, 247, 955, 956, 957, 958, 580, 961, 962, 963, 964, 123, 419, 420, 421, 965, 966, 967, 968, 121, 596, 597, 598, 969, 970, 971, 1010, 1011, 1012, 1013, 1014, 1015, 1016, 1017, 1018, 1019, 1020, 1021, 1022, 1023, 1024, 1025, 1026, 1027, 1028, 1029, 1030, 1031, 1032, 1033, 1034, 1035, 1036, 1037] (by decide +kernel) (by decide +kernel)
set_option maxRecDepth 20000 in
theorem gL_law_X9_lineAt : GoodIn wsL_law (wsV RL 146 RX9 yX9_lineAt wsX9_lineAt) := goodIn_app (goodIn_of _ (by decide +kernel)) ggL_law_X9_lineAt
set_option maxRecDepth 20000 in
theorem ggL_law_X8_count : GoodIn wsL_law wsX8_count := goodIn_r _ [987, 15, 141, 207, 377, 19, 376, 35, 988, 989, 990, 14, 991, 159, 48, 992, 993, 994, 995, 160, 996, 309, 310, 311, 53, 408, 409, 410, 411, 412, 413, 414, 772, 532, 533, 534, 773, 774, 775, 34, 776, 101, 386, 99, 777, 518, 519, 1001, 1002, 1003, 1004, 1005, 1006, 1007, 1008, 1009, 1038, 1039, 1040, 1041, 1042, 1043, 1044, 1045, 1046, 1047, 1048, 1049, 1070, 1071, 1072] (by decide +kernel) (by decide +kernel)
set_option maxRecDepth 20000 in
theorem gL_law_X8_count : GoodIn wsL_law (wsV RL 147 RX8 yX8_count wsX8_count) := goodIn_app (goodIn_of _ (by decide +kernel)) ggL_law_X8_count
set_option maxRecDepth 20000 in
theorem ggL_law_X9_count : GoodIn wsL_law wsX9_count := goodIn_r _ [1000, 189, 190, 197, 121, 126, 395, 198, 419, 420, 5, 421, 588, 589, 590, 591, 786, 787, 788, 789, 130, 596, 597, 598, 1010, 1011, 1012, 1013, 1014, 1015, 1016, 1017, 1018, 1019, 1020, 1021, 1022, 1023, 1024, 1025, 1026, 1027, 1028, 1029, 1030, 1031, 1032, 1033, 1034, 1035, 1036, 1037] (by decide +kernel) (by decide +kernel)
set_option maxRecDepth 20000 in
theorem gL_law_X9_count : GoodIn wsL_law (wsV RL 150 RX9 yX9_count wsX9_count) := goodIn_app (goodIn_of _ (by decide +kernel)) ggL_law_X9_count
