set_option maxRecDepth 20000 in
theorem ggL_law_X9_see : GoodIn wsL_law wsX9_see := goodIn_r _ [887, 38, 431, 432, 433, 2, 434, 23, 407, 210, 211, 22, 212, 71, 70, 888, 889, 890, 37, 891, 98, 892, 893, 894, 895, 96, 97, 896, 897, 898, 899, 1035, 1036, 1037, 1038, 1039, 1040, 1041, 1042, 1043, 1044, 1045, 1046, 1096, 1097, 1098, 1099, 1100, 1101, 1102, 1110, 1111, 1112] rfl (by decide +kernel)
set_option maxRecDepth 20000 in
theorem gL_law_X9_see : GoodIn wsL_law (wsV RL 85 RX9 yX9_see wsX9_see) := goodIn_app (goodIn_r _ [884, 885, 886, 2] rfl (by decide +kernel)) ggL_law_X9_see
set_option maxRecDepth 20000 in
theorem ggL_law_X10_see : GoodIn wsL_law wsX10_see := goodIn_r _ [903, 870, 426, 290, 291, 443, 444, 445, 5, 446, 319, 343, 344, 345, 1047, 1048, 1049, 1050, 1051, 1052, 1053, 1054, 1055, 1056, 1057, 1058, 1059, 1060, 1061, 1062, 1063, 1064, 1065, 1066, 1067, 1068, 1069, 1070, 1071, 1072, 1073, 1074, 1075, 1076, 1077, 1078, 1079, 1080, 1081, 1082, 1083, 1084, 1085, 1086, 1087, 1088, 1089, 1090] rfl (by decide +kernel)
set_option maxRecDepth 20000 in
theorem gL_law_X10_see : GoodIn wsL_law (wsV RL 88 RX10 yX10_see wsX10_see) := goodIn_app (goodIn_r _ [900, 901, 902, 5] rfl (by decide +kernel)) ggL_law_X10_see
set_option maxRecDepth 20000 in
theorem ggL_law_X9_forget : GoodIn wsL_law wsX9_forget := goodIn_r _ [907, 38, 896, 897, 898, 37, 899, 98, 412, 413, 414, 415, 1035, 1036, 1037, 1038, 1039, 1040, 1041, 1042, 1043, 1044, 1045, 1046, 1110, 1111, 1112] rfl (by decide +kernel)
set_option maxRecDepth 20000 in
theorem gL_law_X9_forget : GoodIn wsL_law (wsV RL 89 RX9 yX9_forget wsX9_forget) := goodIn_app (goodIn_r _ [904, 905, 906, 2] rfl (by decide +kernel)) ggL_law_X9_forget
set_option maxRecDepth 20000 in
theorem ggL_law_X10_forget : GoodIn wsL_law wsX10_forget := goodIn_r _ [911, 426, 1047, 1048, 1049, 1050, 1051, 1052, 1053, 1054, 1055, 1056, 1057, 1058, 1059, 1060, 1061, 1062, 1063, 1064, 1065, 1066, 1067, 1068, 1069, 1070, 1071, 1072, 1073, 1074, 1075, 1076, 1077, 1078, 1079, 1080, 1081, 1082, 1083, 1084, 1085, 1086, 1087, 1088, 1089, 1090] rfl (by decide +kernel)
set_option maxRecDepth 20000 in
theorem gL_law_X10_forget : GoodIn wsL_law (wsV RL 92 RX10 yX10_forget wsX10_forget) := goodIn_app (goodIn_r _ [908, 909, 910, 5] rfl (by decide +kernel)) ggL_law_X10_forget
set_option maxRecDepth 20000 in
theorem ggL_law_X9_mind : GoodIn wsL_law wsX9_mind := goodIn_r _ [915, 23, 455, 456, 457, 22, 458, 72, 916, 917, 918, 2, 919, 29, 38, 229, 230, 231, 232, 67, 73, 233, 234, 235, 27, 236, 77, 78, 79, 80, 81, 237, 177, 178, 179, 238, 239, 240, 241, 242, 243, 89, 244, 245, 88, 90, 246, 247, 248, 249, 69, 250, 251, 252, 253, 254, 255, 256, 257, 258, 259, 260, 261, 675, 676, 677, 678, 628, 629, 630, 631, 476, 460, 461, 462, 68, 632, 625, 626, 627, 633, 464, 465, 466, 634, 635, 636, 637, 573, 436, 437, 438, 638, 473, 474, 475, 477, 478, 639, 640, 641, 642, 579, 580, 581, 582, 583, 584, 544, 545, 546, 547, 71, 70, 643, 644, 645, 646, 920, 921, 922, 37, 923, 98, 96, 97, 924, 1035, 1036, 1037, 1038, 1039, 1040, 1041, 1042, 1043, 1044, 1045, 1046, 1096, 1097, 1098, 1099, 1100, 1101, 1102, 1103, 1104, 1105, 1106, 1107, 1110, 1111, 1112] rfl (by decide +kernel)
set_option maxRecDepth 20000 in
theorem gL_law_X9_mind : GoodIn wsL_law (wsV RL 93 RX9 yX9_mind wsX9_mind) := goodIn_app (goodIn_r _ [912, 913, 914, 2] rfl (by decide +kernel)) ggL_law_X9_mind
set_option maxRecDepth 20000 in
theorem ggL_law_X10_mind : GoodIn wsL_law wsX10_mind := goodIn_r _ [928, 651, 321, 343, 344, 5, 345, 929, 930, 931, 932, 426, 287, 290, 291, 323, 324, 325, 326, 270, 322, 277, 656, 657, 658, 659, 274, 660, 661, 662, 663, 664, 665, 666, 272, 271, 273, 319, 488, 489, 490, 491, 667, 668, 669, 670, 384, 385, 386, 613, 614, 615, 616, 320, 597, 598, 599, 600, 1047, 1048, 1049, 1050, 1051, 1052, 1053, 1054, 1055, 1056, 1057, 1058, 1059, 1060, 1061, 1062, 1063, 1064, 1065, 1066, 1067, 1068, 1069, 1070, 1071, 1072, 1073, 1074, 1075, 1076, 1077, 1078, 1079, 1080, 1081, 1082, 1083, 1084, 1085, 1086, 1087, 1088, 1089, 1090] rfl (by decide +kernel)
set_option maxRecDepth 20000 in
theorem gL_law_X10_mind : GoodIn wsL_law (wsV RL 96 RX10 yX10_mind wsX10_mind) := goodIn_app (goodIn_r _ [925, 926, 927, 5] rfl (by decide +kernel)) ggL_law_X10_mind
set_option maxRecDepth 20000 in
theorem ggL_law_X9_deep : GoodIn wsL_law wsX9_deep := goodIn_r _ [936, 23, 24, 451, 452, 453, 2, 454, 455, 456, 457, 22, 458, 72, 408, 409, 410, 411, 67, 221, 222, 223, 224, 68, 69, 70, 71, 73, 937, 938, 939, 940, 916, 917, 918, 919, 29, 38, 229, 230, 231, 232, 233, 234, 235, 27, 236, 77, 78, 79, 80, 81, 237, 177, 178, 179, 238, 239, 240, 241, 242, 243, 89, 244, 245, 88, 90, 246, 247, 248, 249, 250, 251, 252, 253, 254, 255, 256, 257, 258, 259, 260, 261, 675, 676, 677, 678, 628, 629, 630, 631, 476, 460, 461, 462, 632, 625, 626, 627, 633, 464, 465, 466, 634, 635, 636, 637, 573, 436, 437, 438, 638, 473, 474, 475, 477, 478, 639, 640, 641, 642, 579, 580, 581, 582, 583, 584, 544, 545, 546, 547, 643, 644, 645, 646, 920, 921, 922, 37, 923, 98, 96, 97, 924, 1035, 1036, 1037, 1038, 1039, 1040, 1041, 1042, 1043, 1044, 1045, 1046, 1096, 1097, 1098, 1099, 1100, 1101, 1102, 1103, 1104, 1105, 1106, 1107, 1110, 1111, 1112] rfl (by decide +kernel)
set_option maxRecDepth 20000 in
theorem gL_law_X9_deep : GoodIn wsL_law (wsV RL 97 RX9 yX9_deep wsX9_deep) := goodIn_app (goodIn_r _ [933, 934, 935, 2] rfl (by decide +kernel)) ggL_law_X9_deep
set_option maxRecDepth 20000 in
theorem ggL_law_X10_deep : GoodIn wsL_law wsX10_deep := goodIn_r _ [944, 651, 273, 321, 484, 485, 486, 5, 487, 343, 344, 345, 929, 930, 931, 932, 426, 287, 290, 291, 323, 324, 325, 326, 270, 322, 277, 656, 657, 658, 659, 274, 660, 661, 662, 663, 664, 665, 666, 272, 271, 319, 488, 489, 490, 491, 667, 668, 669, 670, 384, 385, 386, 613, 614, 615, 616, 320, 597, 598, 599, 600, 1047, 1048, 1049, 1050, 1051, 1052, 1053, 1054, 1055, 1056, 1057, 1058, 1059, 1060, 1061, 1062, 1063, 1064, 1065, 1066, 1067, 1068, 1069, 1070, 1071, 1072, 1073, 1074, 1075, 1076, 1077, 1078, 1079, 1080, 1081, 1082, 1083, 1084, 1085, 1086, 1087, 1088, 1089, 1090] rfl (by decide +kernel)
set_option maxRecDepth 20000 in
theorem gL_law_X10_deep : GoodIn wsL_law (wsV RL 100 RX10 yX10_deep wsX10_deep) := goodIn_app (goodIn_r _ [941, 942, 943, 5] rfl (by decide +kernel)) ggL_law_X10_deep
set_option maxRecDepth 20000 in
theorem ggL_law_X9_slip : GoodIn wsL_law wsX9_slip := goodIn_r _ [948, 23, 28, 496, 497, 498, 2, 499, 500, 501, 502, 22, 503, 73, 431, 432, 433, 434, 407, 210, 211, 212, 71, 70, 435, 436, 437, 27, 438, 77, 949, 950, 951, 952, 88, 89, 90, 513, 514, 515, 516, 246, 247, 248, 249, 69, 477, 478, 953, 954, 955, 1035, 1036, 1037, 1038, 1039, 1040, 1041, 1042, 1043, 1044, 1045, 1046, 1096, 1097, 1098, 1099, 1100, 1101, 1102, 1103, 1104, 1105, 1106, 1107] rfl (by decide +kernel)
set_option maxRecDepth 20000 in
theorem gL_law_X9_slip : GoodIn wsL_law (wsV RL 101 RX9 yX9_slip wsX9_slip) := goodIn_app (goodIn_r _ [945, 946, 947, 2] rfl (by decide +kernel)) ggL_law_X9_slip
