set_option maxRecDepth 20000 in
theorem ggL_law_X9_sheet : GoodIn wsL_law wsX9_sheet := goodIn_r _ [302, 189, 126, 127, 128, 281, 282, 283, 5, 284, 197, 245, 246, 247, 191, 192, 193, 194, 195, 196, 129, 190, 121, 122, 123, 124, 125, 198, 199, 200, 201, 202, 1010, 1011, 1012, 1013, 1014, 1015, 1016, 1017, 1018, 1019, 1020, 1021, 1022, 1023, 1024, 1025, 1026, 1027, 1028, 1029, 1030, 1031, 1032, 1033, 1034, 1035, 1036, 1037] (by decide +kernel) (by decide +kernel)
set_option maxRecDepth 20000 in
theorem gL_law_X9_sheet : GoodIn wsL_law (wsV RL 47 RX9 yX9_sheet wsX9_sheet) := goodIn_app (goodIn_of _ (by decide +kernel)) ggL_law_X9_sheet
set_option maxRecDepth 20000 in
theorem ggL_law_X8_lose : GoodIn wsL_law wsX8_lose := goodIn_r _ [306, 15, 307, 273, 274, 275, 14, 276, 160, 308, 309, 310, 311, 53, 142, 143, 144, 2, 145, 19, 146, 147, 148, 18, 149, 150, 61, 151, 152, 153, 154, 155, 156, 157, 158, 159, 48, 161, 162, 163, 164, 49, 50, 51, 52, 54, 55, 165, 166, 167, 168, 23, 27, 39, 169, 170, 171, 22, 172, 69, 173, 174, 175, 26, 176, 84, 177, 178, 179, 38, 180, 108, 298, 213, 214, 215, 216, 1001, 1002, 1003, 1004, 1005, 1006, 1007, 1008, 1009, 1038, 1039, 1040, 1041, 1042, 1043, 1044, 1045, 1046, 1047, 1048, 1049, 1050, 1051, 1052, 1053, 1054, 1055, 1056, 1057, 1058, 1059, 1060, 1061, 1062, 1063, 1064, 1073, 1074, 1075, 1076, 1077] (by decide +kernel) (by decide +kernel)
set_option maxRecDepth 20000 in
theorem gL_law_X8_lose : GoodIn wsL_law (wsV RL 48 RX8 yX8_lose wsX8_lose) := goodIn_app (goodIn_of _ (by decide +kernel)) ggL_law_X8_lose
set_option maxRecDepth 20000 in
theorem ggL_law_X9_lose : GoodIn wsL_law wsX9_lose := goodIn_r _ [315, 189, 126, 127, 281, 282, 283, 5, 284, 197, 245, 246, 247, 191, 192, 193, 194, 195, 196, 129, 190, 121, 122, 123, 124, 125, 128, 198, 199, 200, 201, 202, 1010, 1011, 1012, 1013, 1014, 1015, 1016, 1017, 1018, 1019, 1020, 1021, 1022, 1023, 1024, 1025, 1026, 1027, 1028, 1029, 1030, 1031, 1032, 1033, 1034, 1035, 1036, 1037] (by decide +kernel) (by decide +kernel)
set_option maxRecDepth 20000 in
theorem gL_law_X9_lose : GoodIn wsL_law (wsV RL 52 RX9 yX9_lose wsX9_lose) := goodIn_app (goodIn_of _ (by decide +kernel)) ggL_law_X9_lose
set_option maxRecDepth 20000 in
theorem ggL_law_X8_way : GoodIn wsL_law wsX8_way := goodIn_r _ [319, 15, 307, 320, 321, 273, 274, 275, 14, 276, 160, 308, 309, 310, 311, 53, 230, 231, 2, 232, 233, 234, 235, 236, 142, 143, 144, 145, 19, 146, 147, 148, 18, 149, 150, 61, 151, 152, 153, 154, 155, 156, 157, 158, 159, 48, 161, 162, 163, 164, 49, 50, 51, 52, 54, 55, 165, 166, 167, 168, 23, 27, 39, 169, 170, 171, 22, 172, 69, 173, 174, 175, 26, 176, 84, 177, 178, 179, 38, 180, 108, 1001, 1002, 1003, 1004, 1005, 1006, 1007, 1008, 1009, 1038, 1039, 1040, 1041, 1042, 1043, 1044, 1045, 1046, 1047, 1048, 1049, 1050, 1051, 1052, 1053, 1054, 1055, 1056, 1057, 1058, 1059, 1060, 1061, 1062, 1063, 1064, 1073, 1074, 1075, 1076, 1077] (by decide +kernel) (by decide +kernel)
set_option maxRecDepth 20000 in
theorem gL_law_X8_way : GoodIn wsL_law (wsV RL 53 RX8 yX8_way wsX8_way) := goodIn_app (goodIn_of _ (by decide +kernel)) ggL_law_X8_way
set_option maxRecDepth 20000 in
theorem ggL_law_X9_way : GoodIn wsL_law wsX9_way := goodIn_r _ [325, 189, 126, 127, 128, 281, 282, 283, 5, 284, 197, 245, 246, 247, 191, 192, 193, 194, 195, 196, 129, 190, 121, 122, 123, 124, 125, 198, 199, 200, 201, 202, 1010, 1011, 1012, 1013, 1014, 1015, 1016, 1017, 1018, 1019, 1020, 1021, 1022, 1023, 1024, 1025, 1026, 1027, 1028, 1029, 1030, 1031, 1032, 1033, 1034, 1035, 1036, 1037] (by decide +kernel) (by decide +kernel)
set_option maxRecDepth 20000 in
theorem gL_law_X9_way : GoodIn wsL_law (wsV RL 56 RX9 yX9_way wsX9_way) := goodIn_app (goodIn_of _ (by decide +kernel)) ggL_law_X9_way
set_option maxRecDepth 20000 in
theorem ggL_law_X8_copy : GoodIn wsL_law wsX8_copy := goodIn_r _ [329, 15, 320, 321, 330, 162, 163, 164, 273, 274, 275, 14, 276, 160, 308, 309, 310, 311, 53, 331, 332, 333, 334, 54, 142, 143, 144, 2, 145, 19, 146, 147, 148, 18, 149, 150, 61, 151, 152, 153, 154, 155, 156, 157, 158, 159, 48, 161, 49, 50, 51, 52, 55, 165, 166, 167, 168, 23, 27, 39, 169, 170, 171, 22, 172, 69, 173, 174, 175, 26, 176, 84, 177, 178, 179, 38, 180, 108, 1001, 1002, 1003, 1004, 1005, 1006, 1007, 1008, 1009, 1038, 1039, 1040, 1041, 1042, 1043, 1044, 1045, 1046, 1047, 1048, 1049, 1050, 1051, 1052, 1053, 1054, 1055, 1056, 1057, 1058, 1059, 1060, 1061, 1062, 1063, 1064, 1073, 1074, 1075, 1076, 1077] (by decide +kernel) (by decide +kernel)
set_option maxRecDepth 20000 in
theorem gL_law_X8_copy : GoodIn wsL_law (wsV RL 57 RX8 yX8_copy wsX8_copy) := goodIn_app (goodIn_of _ (by decide +kernel)) ggL_law_X8_copy
set_option maxRecDepth 20000 in
theorem ggL_law_X9_copy : GoodIn wsL_law wsX9_copy := goodIn_r _ [338, 189, 126, 127, 128, 281, 282, 283, 5, 284, 197, 245, 246, 247, 191, 192, 193, 194, 195, 196, 129, 190, 121, 122, 123, 124, 125, 198, 199, 200, 201, 202, 1010, 1011, 1012, 1013, 1014, 1015, 1016, 1017, 1018, 1019, 1020, 1021, 1022, 1023, 1024, 1025, 1026, 1027, 1028, 1029, 1030, 1031, 1032, 1033, 1034, 1035, 1036, 1037] (by decide +kernel) (by decide +kernel)
set_option maxRecDepth 20000 in
theorem gL_law_X9_copy : GoodIn wsL_law (wsV RL 61 RX9 yX9_copy wsX9_copy) := goodIn_app (goodIn_of _ (by decide +kernel)) ggL_law_X9_copy
set_option maxRecDepth 20000 in
theorem ggL_law_X8_far : GoodIn wsL_law wsX8_far := goodIn_r _ [342, 15, 273, 274, 275, 14, 276, 160, 226, 227, 228, 229, 159, 343, 344, 345, 346, 55, 1001, 1002, 1003, 1004, 1005, 1006, 1007, 1008, 1009, 1038, 1039, 1040, 1041, 1042, 1043, 1044, 1045, 1046, 1047] (by decide +kernel) (by decide +kernel)
set_option maxRecDepth 20000 in
theorem gL_law_X8_far : GoodIn wsL_law (wsV RL 62 RX8 yX8_far wsX8_far) := goodIn_app (goodIn_of _ (by decide +kernel)) ggL_law_X8_far
set_option maxRecDepth 20000 in
theorem ggL_law_X9_far : GoodIn wsL_law wsX9_far := goodIn_r _ [350, 189, 281, 282, 283, 5, 284, 197, 245, 246, 247, 241, 242, 243, 244, 190, 351, 352, 353, 354, 126, 127, 128, 355, 1010, 1011, 1012, 1013, 1014, 1015, 1016, 1017, 1018, 1019, 1020, 1021, 1022, 1023, 1024, 1025, 1026, 1027, 1028, 1029, 1030, 1031, 1032, 1033, 1034, 1035, 1036, 1037] (by decide +kernel) (by decide +kernel)
