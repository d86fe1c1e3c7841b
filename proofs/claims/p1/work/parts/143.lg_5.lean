set_option maxRecDepth 20000 in
theorem ggL_law_X9_claim : GoodIn wsL_law wsX9_claim := goodIn_r _ [751, 189, 355, 130, 241, 242, 243, 5, 244, 190, 245, 246, 247, 1010, 1011, 1012, 1013, 1014, 1015, 1016, 1017, 1018, 1019, 1020, 1021, 1022, 1023, 1024, 1025, 1026, 1027, 1028, 1029, 1030, 1031, 1032, 1033, 1034, 1035, 1036, 1037] (by decide +kernel) (by decide +kernel)
set_option maxRecDepth 20000 in
theorem gL_law_X9_claim : GoodIn wsL_law (wsV RL 117 RX9 yX9_claim wsX9_claim) := goodIn_app (goodIn_of _ (by decide +kernel)) ggL_law_X9_claim
set_option maxRecDepth 20000 in
theorem ggL_law_X8_claimed : GoodIn wsL_law wsX8_claimed := goodIn_r _ [755, 15, 35, 747, 226, 227, 228, 14, 229, 159, 1001, 1002, 1003, 1004, 1005, 1006, 1007, 1008, 1009, 1070, 1071, 1072, 1038, 1039, 1040, 1041, 1042, 1043, 1044, 1045, 1046, 1047] (by decide +kernel) (by decide +kernel)
set_option maxRecDepth 20000 in
theorem gL_law_X8_claimed : GoodIn wsL_law (wsV RL 118 RX8 yX8_claimed wsX8_claimed) := goodIn_app (goodIn_of _ (by decide +kernel)) ggL_law_X8_claimed
set_option maxRecDepth 20000 in
theorem ggL_law_X9_claimed : GoodIn wsL_law wsX9_claimed := goodIn_r _ [759, 189, 130, 241, 242, 243, 5, 244, 190, 245, 246, 247, 1010, 1011, 1012, 1013, 1014, 1015, 1016, 1017, 1018, 1019, 1020, 1021, 1022, 1023, 1024, 1025, 1026, 1027, 1028, 1029, 1030, 1031, 1032, 1033, 1034, 1035, 1036, 1037] (by decide +kernel) (by decide +kernel)
set_option maxRecDepth 20000 in
theorem gL_law_X9_claimed : GoodIn wsL_law (wsV RL 121 RX9 yX9_claimed wsX9_claimed) := goodIn_app (goodIn_of _ (by decide +kernel)) ggL_law_X9_claimed
set_option maxRecDepth 20000 in
theorem ggL_law_X8_holds : GoodIn wsL_law wsX8_holds := goodIn_r _ [763, 35, 15, 764, 765, 766, 34, 767, 101, 768, 386, 99, 769, 470, 454, 471, 770, 771, 499, 500, 14, 501, 48, 55, 772, 532, 533, 534, 159, 773, 774, 775, 776, 777, 518, 519, 1001, 1002, 1003, 1004, 1005, 1006, 1007, 1008, 1009, 1070, 1071, 1072, 1038, 1039, 1040, 1041, 1042, 1043, 1044, 1045, 1046, 1047] (by decide +kernel) (by decide +kernel)
set_option maxRecDepth 20000 in
theorem gL_law_X8_holds : GoodIn wsL_law (wsV RL 122 RX8 yX8_holds wsX8_holds) := goodIn_app (goodIn_of _ (by decide +kernel)) ggL_law_X8_holds
set_option maxRecDepth 20000 in
theorem ggL_law_X9_holds : GoodIn wsL_law wsX9_holds := goodIn_r _ [781, 189, 782, 783, 784, 5, 785, 197, 190, 130, 121, 124, 351, 352, 353, 354, 126, 127, 128, 355, 588, 589, 590, 591, 786, 787, 788, 789, 596, 597, 598, 1010, 1011, 1012, 1013, 1014, 1015, 1016, 1017, 1018, 1019, 1020, 1021, 1022, 1023, 1024, 1025, 1026, 1027, 1028, 1029, 1030, 1031, 1032, 1033, 1034, 1035, 1036, 1037] (by decide +kernel) (by decide +kernel)
set_option maxRecDepth 20000 in
theorem gL_law_X9_holds : GoodIn wsL_law (wsV RL 125 RX9 yX9_holds wsX9_holds) := goodIn_app (goodIn_of _ (by decide +kernel)) ggL_law_X9_holds
set_option maxRecDepth 20000 in
theorem ggL_law_X8_raise : GoodIn wsL_law wsX8_raise := goodIn_r _ [793, 15, 207, 35, 794, 795, 796, 34, 797, 99, 101, 770, 100, 768, 798, 162, 163, 164, 799, 511, 496, 512, 800, 801, 802, 803, 386, 804, 805, 806, 807, 808, 809, 810, 811, 771, 499, 500, 14, 501, 48, 55, 812, 813, 814, 815, 769, 470, 454, 471, 816, 817, 818, 819, 820, 453, 455, 777, 518, 519, 821, 822, 823, 824, 825, 826, 827, 828, 829, 830, 831, 832, 772, 532, 533, 534, 159, 773, 774, 775, 776, 1001, 1002, 1003, 1004, 1005, 1006, 1007, 1008, 1009, 1038, 1039, 1040, 1041, 1042, 1043, 1044, 1045, 1046, 1047, 1070, 1071, 1072] (by decide +kernel) (by decide +kernel)
set_option maxRecDepth 20000 in
theorem gL_law_X8_raise : GoodIn wsL_law (wsV RL 126 RX8 yX8_raise wsX8_raise) := goodIn_app (goodIn_of _ (by decide +kernel)) ggL_law_X8_raise
set_option maxRecDepth 20000 in
theorem ggL_law_X9_raise : GoodIn wsL_law wsX9_raise := goodIn_r _ [836, 189, 197, 130, 190, 782, 783, 784, 5, 785, 121, 124, 351, 352, 353, 354, 126, 127, 128, 355, 588, 589, 590, 591, 786, 787, 788, 789, 596, 597, 598, 1010, 1011, 1012, 1013, 1014, 1015, 1016, 1017, 1018, 1019, 1020, 1021, 1022, 1023, 1024, 1025, 1026, 1027, 1028, 1029, 1030, 1031, 1032, 1033, 1034, 1035, 1036, 1037] (by decide +kernel) (by decide +kernel)
set_option maxRecDepth 20000 in
theorem gL_law_X9_raise : GoodIn wsL_law (wsV RL 129 RX9 yX9_raise wsX9_raise) := goodIn_app (goodIn_of _ (by decide +kernel)) ggL_law_X9_raise
set_option maxRecDepth 20000 in
theorem ggL_law_X8_fair : GoodIn wsL_law wsX8_fair := goodIn_r _ [840, 15, 207, 39, 35, 841, 842, 843, 844, 38, 845, 108, 110, 106, 846, 109, 847, 442, 443, 22, 444, 69, 66, 445, 67, 70, 446, 68, 447, 448, 449, 450, 451, 452, 453, 454, 455, 456, 457, 458, 344, 345, 14, 346, 55, 848, 511, 496, 512, 849, 388, 389, 390, 160, 850, 851, 852, 853, 107, 854, 855, 856, 857, 858, 473, 474, 475, 772, 532, 533, 534, 159, 773, 774, 775, 34, 776, 101, 386, 99, 777, 518, 519, 1001, 1002, 1003, 1004, 1005, 1006, 1007, 1008, 1009, 1038, 1039, 1040, 1041, 1042, 1043, 1044, 1045, 1046, 1047, 1073, 1074, 1075, 1076, 1077, 1050, 1051, 1052, 1053, 1054, 1070, 1071, 1072] (by decide +kernel) (by decide +kernel)
set_option maxRecDepth 20000 in
theorem gL_law_X8_fair : GoodIn wsL_law (wsV RL 130 RX8 yX8_fair wsX8_fair) := goodIn_app (goodIn_of _ (by decide +kernel)) ggL_law_X8_fair
set_option maxRecDepth 20000 in
theorem ggL_law_X9_fair : GoodIn wsL_law wsX9_fair := goodIn_r _ [862, 189, 197, 135, 863, 864, 865, 5, 866, 580, 588, 589, 590, 591, 190, 400, 401, 402, 403, 592, 593, 594, 595, 121, 596, 597, 598, 599, 600, 601, 602, 351, 352, 353, 354, 126, 127, 128, 355, 603, 604, 605, 606, 124, 786, 787, 788, 789, 130, 1010, 1011, 1012, 1013, 1014, 1015, 1016, 1017, 1018, 1019, 1020, 1021, 1022, 1023, 1024, 1025, 1026, 1027, 1028, 1029, 1030, 1031, 1032, 1033, 1034, 1035, 1036, 1037] (by decide +kernel) (by decide +kernel)
