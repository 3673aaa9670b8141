set_option maxRecDepth 20000 in
theorem ggL_law_X10_lay : GoodIn wsL_law wsX10_lay := goodIn_r _ [423, 300, 424, 425, 426, 319, 363, 364, 365, 5, 366, 367, 368, 342, 362, 301, 302, 303, 304, 299, 305, 306, 278, 369, 370, 371, 372, 289, 373, 374, 375, 376, 377, 378, 379, 380, 381, 382, 383, 343, 344, 345, 384, 385, 386, 387, 388, 389, 390, 391, 392, 393, 394, 395, 396, 397, 398, 307, 308, 309, 310, 279, 280, 281, 282, 399, 400, 401, 402, 311, 312, 313, 314, 283, 284, 285, 286, 315, 316, 317, 318, 320, 321, 322, 270, 271, 272, 273, 274, 275, 276, 277, 287, 323, 324, 325, 326, 1047, 1048, 1049, 1050, 1051, 1052, 1053, 1054, 1055, 1056, 1057, 1058, 1059, 1060, 1061, 1062, 1063, 1064, 1065, 1066, 1067, 1068, 1069, 1070, 1071, 1072, 1073, 1074, 1075, 1076, 1077, 1078, 1079, 1080, 1081, 1082, 1083, 1084, 1085, 1086, 1087, 1088, 1089, 1090] rfl (by decide +kernel)
set_option maxRecDepth 20000 in
theorem gL_law_X10_lay : GoodIn wsL_law (wsV RL 30 RX10 yX10_lay wsX10_lay) := goodIn_app (goodIn_r _ [420, 421, 422, 5] rfl (by decide +kernel)) ggL_law_X10_lay
set_option maxRecDepth 20000 in
theorem ggL_law_X9_high : GoodIn wsL_law wsX9_high := goodIn_r _ [430, 28, 431, 432, 433, 2, 434, 23, 407, 210, 211, 22, 212, 71, 70, 435, 436, 437, 27, 438, 77, 1035, 1036, 1037, 1038, 1039, 1040, 1041, 1042, 1043, 1044, 1045, 1046, 1096, 1097, 1098, 1099, 1100, 1101, 1102, 1103, 1104, 1105, 1106, 1107] rfl (by decide +kernel)
set_option maxRecDepth 20000 in
theorem gL_law_X9_high : GoodIn wsL_law (wsV RL 31 RX9 yX9_high wsX9_high) := goodIn_app (goodIn_r _ [427, 428, 429, 2] rfl (by decide +kernel)) ggL_law_X9_high
set_option maxRecDepth 20000 in
theorem ggL_law_X10_high : GoodIn wsL_law wsX10_high := goodIn_r _ [442, 287, 443, 444, 445, 5, 446, 319, 343, 344, 345, 1047, 1048, 1049, 1050, 1051, 1052, 1053, 1054, 1055, 1056, 1057, 1058, 1059, 1060, 1061, 1062, 1063, 1064, 1065, 1066, 1067, 1068, 1069, 1070, 1071, 1072, 1073, 1074, 1075, 1076, 1077, 1078, 1079, 1080, 1081, 1082, 1083, 1084, 1085, 1086, 1087, 1088, 1089, 1090] rfl (by decide +kernel)
set_option maxRecDepth 20000 in
theorem gL_law_X10_high : GoodIn wsL_law (wsV RL 34 RX10 yX10_high wsX10_high) := goodIn_app (goodIn_r _ [439, 440, 441, 5] rfl (by decide +kernel)) ggL_law_X10_high
set_option maxRecDepth 20000 in
theorem ggL_law_X9_matter : GoodIn wsL_law wsX9_matter := goodIn_r _ [450, 23, 28, 451, 452, 453, 2, 454, 455, 456, 457, 22, 458, 72, 459, 460, 461, 462, 68, 463, 464, 465, 27, 466, 80, 467, 468, 469, 470, 471, 243, 89, 244, 435, 436, 437, 438, 77, 472, 473, 474, 475, 476, 477, 478, 1035, 1036, 1037, 1038, 1039, 1040, 1041, 1042, 1043, 1044, 1045, 1046, 1096, 1097, 1098, 1099, 1100, 1101, 1102, 1103, 1104, 1105, 1106, 1107] rfl (by decide +kernel)
set_option maxRecDepth 20000 in
theorem gL_law_X9_matter : GoodIn wsL_law (wsV RL 35 RX9 yX9_matter wsX9_matter) := goodIn_app (goodIn_r _ [447, 448, 449, 2] rfl (by decide +kernel)) ggL_law_X9_matter
set_option maxRecDepth 20000 in
theorem ggL_law_X10_matter : GoodIn wsL_law wsX10_matter := goodIn_r _ [482, 483, 287, 272, 271, 273, 274, 484, 485, 486, 5, 487, 321, 343, 344, 345, 488, 489, 490, 491, 384, 385, 386, 1047, 1048, 1049, 1050, 1051, 1052, 1053, 1054, 1055, 1056, 1057, 1058, 1059, 1060, 1061, 1062, 1063, 1064, 1065, 1066, 1067, 1068, 1069, 1070, 1071, 1072, 1073, 1074, 1075, 1076, 1077, 1078, 1079, 1080, 1081, 1082, 1083, 1084, 1085, 1086, 1087, 1088, 1089, 1090] rfl (by decide +kernel)
set_option maxRecDepth 20000 in
theorem gL_law_X10_matter : GoodIn wsL_law (wsV RL 39 RX10 yX10_matter wsX10_matter) := goodIn_app (goodIn_r _ [479, 480, 481, 5] rfl (by decide +kernel)) ggL_law_X10_matter
set_option maxRecDepth 20000 in
theorem ggL_law_X9_maid : GoodIn wsL_law wsX9_maid := goodIn_r _ [495, 28, 23, 471, 243, 89, 244, 496, 497, 498, 2, 499, 500, 501, 502, 22, 503, 73, 504, 505, 506, 27, 507, 79, 435, 436, 437, 438, 77, 508, 247, 248, 249, 69, 509, 510, 511, 512, 78, 513, 514, 515, 516, 246, 477, 478, 1035, 1036, 1037, 1038, 1039, 1040, 1041, 1042, 1043, 1044, 1045, 1046, 1096, 1097, 1098, 1099, 1100, 1101, 1102, 1103, 1104, 1105, 1106, 1107] rfl (by decide +kernel)
set_option maxRecDepth 20000 in
theorem gL_law_X9_maid : GoodIn wsL_law (wsV RL 40 RX9 yX9_maid wsX9_maid) := goodIn_app (goodIn_r _ [492, 493, 494, 2] rfl (by decide +kernel)) ggL_law_X9_maid
set_option maxRecDepth 20000 in
theorem ggL_law_X10_maid : GoodIn wsL_law wsX10_maid := goodIn_r _ [520, 521, 275, 276, 287, 522, 523, 524, 5, 525, 322, 343, 344, 345, 526, 527, 528, 529, 384, 385, 386, 1047, 1048, 1049, 1050, 1051, 1052, 1053, 1054, 1055, 1056, 1057, 1058, 1059, 1060, 1061, 1062, 1063, 1064, 1065, 1066, 1067, 1068, 1069, 1070, 1071, 1072, 1073, 1074, 1075, 1076, 1077, 1078, 1079, 1080, 1081, 1082, 1083, 1084, 1085, 1086, 1087, 1088, 1089, 1090] rfl (by decide +kernel)
set_option maxRecDepth 20000 in
theorem gL_law_X10_maid : GoodIn wsL_law (wsV RL 43 RX10 yX10_maid wsX10_maid) := goodIn_app (goodIn_r _ [517, 518, 519, 5] rfl (by decide +kernel)) ggL_law_X10_maid
set_option maxRecDepth 20000 in
theorem ggL_law_X9_stroke : GoodIn wsL_law wsX9_stroke := goodIn_r _ [533, 23, 28, 33, 496, 497, 498, 2, 499, 500, 501, 502, 22, 503, 73, 431, 432, 433, 434, 407, 210, 211, 212, 71, 70, 534, 535, 536, 537, 538, 510, 511, 27, 512, 78, 539, 505, 506, 507, 79, 540, 541, 542, 543, 544, 545, 546, 547, 548, 549, 550, 32, 551, 86, 552, 553, 554, 555, 92, 556, 557, 558, 559, 560, 561, 562, 563, 564, 565, 566, 567, 77, 568, 222, 223, 224, 80, 81, 569, 570, 571, 572, 573, 436, 437, 438, 574, 514, 515, 516, 246, 247, 248, 249, 69, 477, 478, 575, 576, 577, 578, 579, 580, 239, 240, 241, 242, 243, 89, 244, 245, 88, 90, 581, 582, 583, 584, 585, 586, 587, 588, 258, 259, 260, 261, 250, 251, 252, 253, 435, 1035, 1036, 1037, 1038, 1039, 1040, 1041, 1042, 1043, 1044, 1045, 1046, 1096, 1097, 1098, 1099, 1100, 1101, 1102, 1103, 1104, 1105, 1106, 1107, 1108, 1109] rfl (by decide +kernel)
set_option maxRecDepth 20000 in
theorem gL_law_X9_stroke : GoodIn wsL_law (wsV RL 44 RX9 yX9_stroke wsX9_stroke) := goodIn_app (goodIn_r _ [530, 531, 532, 2] rfl (by decide +kernel)) ggL_law_X9_stroke
set_option maxRecDepth 20000 in
theorem ggL_law_X10_stroke : GoodIn wsL_law wsX10_stroke := goodIn_r _ [592, 287, 522, 523, 524, 5, 525, 322, 343, 344, 345, 443, 444, 445, 446, 319, 593, 594, 595, 596, 597, 598, 599, 600, 320, 601, 602, 603, 604, 424, 605, 606, 607, 608, 609, 610, 611, 612, 275, 276, 526, 527, 528, 529, 384, 385, 386, 613, 614, 615, 616, 617, 618, 619, 1047, 1048, 1049, 1050, 1051, 1052, 1053, 1054, 1055, 1056, 1057, 1058, 1059, 1060, 1061, 1062, 1063, 1064, 1065, 1066, 1067, 1068, 1069, 1070, 1071, 1072, 1073, 1074, 1075, 1076, 1077, 1078, 1079, 1080, 1081, 1082, 1083, 1084, 1085, 1086, 1087, 1088, 1089, 1090] rfl (by decide +kernel)
set_option maxRecDepth 20000 in
theorem gL_law_X10_stroke : GoodIn wsL_law (wsV RL 47 RX10 yX10_stroke wsX10_stroke) := goodIn_app (goodIn_r _ [589, 590, 591, 5] rfl (by decide +kernel)) ggL_law_X10_stroke
