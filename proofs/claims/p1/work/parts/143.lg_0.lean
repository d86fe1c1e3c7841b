set_option maxRecDepth 20000 in
theorem ggL_law_X8_init : GoodIn wsL_law wsX8_init := goodIn_r _ [8, 9, 10, 11, 12, 13, 14, 15, 16, 17, 18, 19, 20, 21, 22, 23, 24, 25, 26, 27, 28, 29, 30, 31, 32, 33, 34, 35, 36, 37, 38, 39, 40, 41, 42, 43, 44, 45, 46, 47, 48, 49, 50, 51, 52, 53, 54, 55, 56, 57, 58, 59, 60, 61, 62, 63, 64, 65, 66, 67, 68, 69, 70, 71, 72, 73, 74, 75, 76, 77, 78, 79, 80, 81, 82, 83, 84, 85, 86, 87, 88, 89, 90, 91, 92, 93, 94, 95, 96, 97, 98, 99, 100, 101, 102, 103, 104, 105, 106, 107, 108, 109, 110, 111, 112, 113, 114, 115, 116, 1038, 1039, 1040, 1041, 1042, 1043, 1044, 1045, 1046, 1047, 1001, 1002, 1003, 1004, 1005, 1006, 1007, 1008, 1009, 1048, 1049, 1050, 1051, 1052, 1053, 1054, 1055, 1056, 1057, 1058, 1059, 1060, 1061, 1062, 1063, 1064, 1065, 1066, 1067, 1068, 1069, 1070, 1071, 1072, 1073, 1074, 1075, 1076, 1077, 1078, 1079, 1080, 1081, 1082] (by decide +kernel) (by decide +kernel)
set_option maxRecDepth 20000 in
theorem gL_law_X8_init : GoodIn wsL_law (wsX8_init) := ggL_law_X8_init
set_option maxRecDepth 20000 in
theorem ggL_law_X9_init : GoodIn wsL_law wsX9_init := goodIn_r _ [119, 120, 10, 11, 47, 121, 122, 123, 124, 125, 126, 127, 128, 129, 130, 131, 132, 133, 134, 135, 136, 1010, 1011, 1012, 1013, 1014, 1015, 1016, 1017, 1018, 1019, 1020, 1021, 1022, 1023, 1024, 1025, 1026, 1027, 1028, 1029, 1030, 1031, 1032, 1033, 1034, 1035, 1036, 1037] (by decide +kernel) (by decide +kernel)
set_option maxRecDepth 20000 in
theorem gL_law_X9_init : GoodIn wsL_law (wsX9_init) := ggL_law_X9_init
set_option maxRecDepth 20000 in
theorem ggL_law_X8_town : GoodIn wsL_law wsX8_town := goodIn_r _ [140, 15, 141, 142, 143, 144, 2, 145, 19, 146, 147, 148, 18, 149, 150, 61, 151, 152, 153, 154, 155, 156, 157, 14, 158, 159, 160, 48, 161, 162, 163, 164, 49, 50, 51, 52, 53, 54, 55, 165, 166, 167, 168, 23, 27, 39, 169, 170, 171, 22, 172, 69, 173, 174, 175, 26, 176, 84, 177, 178, 179, 38, 180, 108, 181, 182, 183, 184, 1001, 1002, 1003, 1004, 1005, 1006, 1007, 1008, 1009, 1038, 1039, 1040, 1041, 1042, 1043, 1044, 1045, 1046, 1047, 1048, 1049, 1050, 1051, 1052, 1053, 1054, 1055, 1056, 1057, 1058, 1059, 1060, 1061, 1062, 1063, 1064, 1073, 1074, 1075, 1076, 1077] (by decide +kernel) (by decide +kernel)
set_option maxRecDepth 20000 in
theorem gL_law_X8_town : GoodIn wsL_law (wsV RL 13 RX8 yX8_town wsX8_town) := goodIn_app (goodIn_of _ (by decide +kernel)) ggL_law_X8_town
set_option maxRecDepth 20000 in
theorem ggL_law_X9_town : GoodIn wsL_law wsX9_town := goodIn_r _ [188, 189, 190, 121, 122, 123, 191, 192, 193, 5, 194, 195, 196, 129, 197, 124, 125, 126, 127, 128, 198, 199, 200, 201, 202, 1010, 1011, 1012, 1013, 1014, 1015, 1016, 1017, 1018, 1019, 1020, 1021, 1022, 1023, 1024, 1025, 1026, 1027, 1028, 1029, 1030, 1031, 1032, 1033, 1034, 1035, 1036, 1037] (by decide +kernel) (by decide +kernel)
set_option maxRecDepth 20000 in
theorem gL_law_X9_town : GoodIn wsL_law (wsV RL 17 RX9 yX9_town wsX9_town) := goodIn_app (goodIn_of _ (by decide +kernel)) ggL_law_X9_town
set_option maxRecDepth 20000 in
theorem ggL_law_X8_hall : GoodIn wsL_law wsX8_hall := goodIn_r _ [206, 15, 207, 142, 143, 144, 2, 145, 19, 146, 147, 148, 18, 149, 150, 61, 151, 152, 153, 154, 155, 156, 157, 14, 158, 159, 160, 48, 161, 162, 163, 164, 49, 50, 51, 52, 53, 54, 55, 165, 166, 167, 168, 23, 27, 39, 169, 170, 171, 22, 172, 69, 173, 174, 175, 26, 176, 84, 177, 178, 179, 38, 180, 108, 208, 209, 210, 211, 212, 213, 214, 215, 216, 1001, 1002, 1003, 1004, 1005, 1006, 1007, 1008, 1009, 1038, 1039, 1040, 1041, 1042, 1043, 1044, 1045, 1046, 1047, 1048, 1049, 1050, 1051, 1052, 1053, 1054, 1055, 1056, 1057, 1058, 1059, 1060, 1061, 1062, 1063, 1064, 1073, 1074, 1075, 1076, 1077] (by decide +kernel) (by decide +kernel)
set_option maxRecDepth 20000 in
theorem gL_law_X8_hall : GoodIn wsL_law (wsV RL 18 RX8 yX8_hall wsX8_hall) := goodIn_app (goodIn_of _ (by decide +kernel)) ggL_law_X8_hall
set_option maxRecDepth 20000 in
theorem ggL_law_X9_hall : GoodIn wsL_law wsX9_hall := goodIn_r _ [220, 189, 197, 124, 125, 126, 127, 191, 192, 193, 5, 194, 195, 196, 129, 190, 121, 122, 123, 128, 198, 199, 200, 201, 202, 1010, 1011, 1012, 1013, 1014, 1015, 1016, 1017, 1018, 1019, 1020, 1021, 1022, 1023, 1024, 1025, 1026, 1027, 1028, 1029, 1030, 1031, 1032, 1033, 1034, 1035, 1036, 1037] (by decide +kernel) (by decide +kernel)
set_option maxRecDepth 20000 in
theorem gL_law_X9_hall : GoodIn wsL_law (wsV RL 21 RX9 yX9_hall wsX9_hall) := goodIn_app (goodIn_of _ (by decide +kernel)) ggL_law_X9_hall
set_option maxRecDepth 20000 in
theorem ggL_law_X8_people : GoodIn wsL_law wsX8_people := goodIn_r _ [224, 15, 225, 226, 227, 228, 14, 229, 159, 230, 231, 2, 232, 233, 234, 235, 236, 142, 143, 144, 145, 19, 146, 147, 148, 18, 149, 150, 61, 151, 152, 153, 154, 155, 156, 157, 158, 160, 48, 161, 162, 163, 164, 49, 50, 51, 52, 53, 54, 55, 165, 166, 167, 168, 23, 27, 39, 169, 170, 171, 22, 172, 69, 173, 174, 175, 26, 176, 84, 177, 178, 179, 38, 180, 108, 1001, 1002, 1003, 1004, 1005, 1006, 1007, 1008, 1009, 1038, 1039, 1040, 1041, 1042, 1043, 1044, 1045, 1046, 1047, 1048, 1049, 1050, 1051, 1052, 1053, 1054, 1055, 1056, 1057, 1058, 1059, 1060, 1061, 1062, 1063, 1064, 1073, 1074, 1075, 1076, 1077] (by decide +kernel) (by decide +kernel)
set_option maxRecDepth 20000 in
theorem gL_law_X8_people : GoodIn wsL_law (wsV RL 22 RX8 yX8_people wsX8_people) := goodIn_app (goodIn_of _ (by decide +kernel)) ggL_law_X8_people
set_option maxRecDepth 20000 in
theorem ggL_law_X9_people : GoodIn wsL_law wsX9_people := goodIn_r _ [240, 189, 121, 241, 242, 243, 5, 244, 190, 245, 246, 247, 191, 192, 193, 194, 195, 196, 129, 197, 122, 123, 124, 125, 126, 127, 128, 198, 199, 200, 201, 202, 1010, 1011, 1012, 1013, 1014, 1015, 1016, 1017, 1018, 1019, 1020, 1021, 1022, 1023, 1024, 1025, 1026, 1027, 1028, 1029, 1030, 1031, 1032, 1033, 1034, 1035, 1036, 1037] (by decide +kernel) (by decide +kernel)
set_option maxRecDepth 20000 in
theorem gL_law_X9_people : GoodIn wsL_law (wsV RL 26 RX9 yX9_people wsX9_people) := goodIn_app (goodIn_of _ (by decide +kernel)) ggL_law_X9_people
set_option maxRecDepth 20000 in
theorem ggL_law_X8_fine : GoodIn wsL_law wsX8_fine := goodIn_r _ [251, 15, 252, 253, 226, 227, 228, 14, 229, 159, 230, 231, 2, 232, 233, 234, 235, 236, 142, 143, 144, 145, 19, 146, 147, 148, 18, 149, 150, 61, 151, 152, 153, 154, 155, 156, 157, 158, 160, 48, 161, 162, 163, 164, 49, 50, 51, 52, 53, 54, 55, 165, 166, 167, 168, 23, 27, 39, 169, 170, 171, 22, 172, 69, 173, 174, 175, 26, 176, 84, 177, 178, 179, 38, 180, 108, 1001, 1002, 1003, 1004, 1005, 1006, 1007, 1008, 1009, 1038, 1039, 1040, 1041, 1042, 1043, 1044, 1045, 1046, 1047, 1048, 1049, 1050, 1051, 1052, 1053, 1054, 1055, 1056, 1057, 1058, 1059, 1060, 1061, 1062, 1063, 1064, 1073, 1074, 1075, 1076, 1077] (by decide +kernel) (by decide +kernel)
set_option maxRecDepth 20000 in
theorem gL_law_X8_fine : GoodIn wsL_law (wsV RL 27 RX8 yX8_fine wsX8_fine) := goodIn_app (goodIn_of _ (by decide +kernel)) ggL_law_X8_fine
set_option maxRecDepth 20000 in
theorem ggL_law_X9_fine : GoodIn wsL_law wsX9_fine := goodIn_r _ [257, 189, 258, 122, 241, 242, 243, 5, 244, 190, 245, 246, 247, 191, 192, 193, 194, 195, 196, 129, 197, 121, 123, 124, 125, 126, 127, 128, 198, 199, 200, 201, 202, 1010, 1011, 1012, 1013, 1014, 1015, 1016, 1017, 1018, 1019, 1020, 1021, 1022, 1023, 1024, 1025, 1026, 1027, 1028, 1029, 1030, 1031, 1032, 1033, 1034, 1035, 1036, 1037] (by decide +kernel) (by decide +kernel)
set_option maxRecDepth 20000 in
theorem gL_law_X9_fine : GoodIn wsL_law (wsV RL 30 RX9 yX9_fine wsX9_fine) := goodIn_app (goodIn_of _ (by decide +kernel)) ggL_law_X9_fine
set_option maxRecDepth 20000 in
theorem ggL_law_X8_place : GoodIn wsL_law wsX8_place := goodIn_r _ [262, 15, 263, 226, 227, 228, 14, 229, 159, 230, 231, 2, 232, 233, 234, 235, 236, 142, 143, 144, 145, 19, 146, 147, 148, 18, 149, 150, 61, 151, 152, 153, 154, 155, 156, 157, 158, 160, 48, 161, 162, 163, 164, 49, 50, 51, 52, 53, 54, 55, 165, 166, 167, 168, 23, 27, 39, 169, 170, 171, 22, 172, 69, 173, 174, 175, 26, 176, 84, 177, 178, 179, 38, 180, 108, 1001, 1002, 1003, 1004, 1005, 1006, 1007, 1008, 1009, 1038, 1039, 1040, 1041, 1042, 1043, 1044, 1045, 1046, 1047, 1048, 1049, 1050, 1051, 1052, 1053, 1054, 1055, 1056, 1057, 1058, 1059, 1060, 1061, 1062, 1063, 1064, 1073, 1074, 1075, 1076, 1077] (by decide +kernel) (by decide +kernel)
set_option maxRecDepth 20000 in
theorem gL_law_X8_place : GoodIn wsL_law (wsV RL 31 RX8 yX8_place wsX8_place) := goodIn_app (goodIn_of _ (by decide +kernel)) ggL_law_X8_place
set_option maxRecDepth 20000 in
theorem ggL_law_X9_place : GoodIn wsL_law wsX9_place := goodIn_r _ [267, 189, 123, 241, 242, 243, 5, 244, 190, 245, 246, 247, 191, 192, 193, 194, 195, 196, 129, 197, 121, 122, 124, 125, 126, 127, 128, 198, 199, 200, 201, 202, 1010, 1011, 1012, 1013, 1014, 1015, 1016, 1017, 1018, 1019, 1020, 1021, 1022, 1023, 1024, 1025, 1026, 1027, 1028, 1029, 1030, 1031, 1032, 1033, 1034, 1035, 1036, 1037] (by decide +kernel) (by decide +kernel)
set_option maxRecDepth 20000 in
theorem gL_law_X9_place : GoodIn wsL_law (wsV RL 34 RX9 yX9_place wsX9_place) := goodIn_app (goodIn_of _ (by decide +kernel)) ggL_law_X9_place
set_option maxRecDepth 20000 in
theorem ggL_law_X8_price : GoodIn wsL_law wsX8_price := goodIn_r _ [271, 15, 252, 272, 273, 274, 275, 14, 276, 160, 230, 231, 2, 232, 233, 234, 235, 236, 142, 143, 144, 145, 19, 146, 147, 148, 18, 149, 150, 61, 151, 152, 153, 154, 155, 156, 157, 158, 159, 48, 161, 162, 163, 164, 49, 50, 51, 52, 53, 54, 55, 165, 166, 167, 168, 23, 27, 39, 169, 170, 171, 22, 172, 69, 173, 174, 175, 26, 176, 84, 177, 178, 179, 38, 180, 108, 1001, 1002, 1003, 1004, 1005, 1006, 1007, 1008, 1009, 1038, 1039, 1040, 1041, 1042, 1043, 1044, 1045, 1046, 1047, 1048, 1049, 1050, 1051, 1052, 1053, 1054, 1055, 1056, 1057, 1058, 1059, 1060, 1061, 1062, 1063, 1064, 1073, 1074, 1075, 1076, 1077] (by decide +kernel) (by decide +kernel)
set_option maxRecDepth 20000 in
theorem gL_law_X8_price : GoodIn wsL_law (wsV RL 35 RX8 yX8_price wsX8_price) := goodIn_app (goodIn_of _ (by decide +kernel)) ggL_law_X8_price
set_option maxRecDepth 20000 in
theorem ggL_law_X9_price : GoodIn wsL_law wsX9_price := goodIn_r _ [280, 189, 258, 124, 281, 282, 283, 5, 284, 197, 245, 246, 247, 191, 192, 193, 194, 195, 196, 129, 190, 121, 122, 123, 125, 126, 127, 128, 198, 199, 200, 201, 202, 1010, 1011, 1012, 1013, 1014, 1015, 1016, 1017, 1018, 1019, 1020, 1021, 1022, 1023, 1024, 1025, 1026, 1027, 1028, 1029, 1030, 1031, 1032, 1033, 1034, 1035, 1036, 1037] (by decide +kernel) (by decide +kernel)
set_option maxRecDepth 20000 in
theorem gL_law_X9_price : GoodIn wsL_law (wsV RL 38 RX9 yX9_price wsX9_price) := goodIn_app (goodIn_of _ (by decide +kernel)) ggL_law_X9_price
set_option maxRecDepth 20000 in
theorem ggL_law_X8_room : GoodIn wsL_law wsX8_room := goodIn_r _ [288, 15, 289, 273, 274, 275, 14, 276, 160, 230, 231, 2, 232, 233, 234, 235, 236, 142, 143, 144, 145, 19, 146, 147, 148, 18, 149, 150, 61, 151, 152, 153, 154, 155, 156, 157, 158, 159, 48, 161, 162, 163, 164, 49, 50, 51, 52, 53, 54, 55, 165, 166, 167, 168, 23, 27, 39, 169, 170, 171, 22, 172, 69, 173, 174, 175, 26, 176, 84, 177, 178, 179, 38, 180, 108, 1001, 1002, 1003, 1004, 1005, 1006, 1007, 1008, 1009, 1038, 1039, 1040, 1041, 1042, 1043, 1044, 1045, 1046, 1047, 1048, 1049, 1050, 1051, 1052, 1053, 1054, 1055, 1056, 1057, 1058, 1059, 1060, 1061, 1062, 1063, 1064, 1073, 1074, 1075, 1076, 1077] (by decide +kernel) (by decide +kernel)
set_option maxRecDepth 20000 in
theorem gL_law_X8_room : GoodIn wsL_law (wsV RL 39 RX8 yX8_room wsX8_room) := goodIn_app (goodIn_of _ (by decide +kernel)) ggL_law_X8_room
set_option maxRecDepth 20000 in
theorem ggL_law_X9_room : GoodIn wsL_law wsX9_room := goodIn_r _ [293, 189, 125, 281, 282, 283, 5, 284, 197, 245, 246, 247, 191, 192, 193, 194, 195, 196, 129, 190, 121, 122, 123, 124, 126, 127, 128, 198, 199, 200, 201, 202, 1010, 1011, 1012, 1013, 1014, 1015, 1016, 1017, 1018, 1019, 1020, 1021, 1022, 1023, 1024, 1025, 1026, 1027, 1028, 1029, 1030, 1031, 1032, 1033, 1034, 1035, 1036, 1037] (by decide +kernel) (by decide +kernel)
set_option maxRecDepth 20000 in
theorem gL_law_X9_room : GoodIn wsL_law (wsV RL 42 RX9 yX9_room wsX9_room) := goodIn_app (goodIn_of _ (by decide +kernel)) ggL_law_X9_room
set_option maxRecDepth 20000 in
theorem ggL_law_X8_sheet : GoodIn wsL_law wsX8_sheet := goodIn_r _ [297, 15, 273, 274, 275, 14, 276, 160, 230, 231, 2, 232, 142, 143, 144, 145, 19, 146, 147, 148, 18, 149, 150, 61, 151, 152, 153, 154, 155, 156, 157, 158, 159, 48, 161, 162, 163, 164, 49, 50, 51, 52, 53, 54, 55, 165, 166, 167, 168, 23, 27, 39, 169, 170, 171, 22, 172, 69, 173, 174, 175, 26, 176, 84, 177, 178, 179, 38, 180, 108, 298, 213, 214, 215, 216, 1001, 1002, 1003, 1004, 1005, 1006, 1007, 1008, 1009, 1038, 1039, 1040, 1041, 1042, 1043, 1044, 1045, 1046, 1047, 1048, 1049, 1050, 1051, 1052, 1053, 1054, 1055, 1056, 1057, 1058, 1059, 1060, 1061, 1062, 1063, 1064, 1073, 1074, 1075, 1076, 1077] (by decide +kernel) (by decide +kernel)
set_option maxRecDepth 20000 in
theorem gL_law_X8_sheet : GoodIn wsL_law (wsV RL 43 RX8 yX8_sheet wsX8_sheet) := goodIn_app (goodIn_of _ (by decide +kernel)) ggL_law_X8_sheet
