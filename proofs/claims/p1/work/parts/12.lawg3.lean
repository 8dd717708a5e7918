set_option maxRecDepth 20000 in
theorem ggL_law_X8_rests : GoodIn wsL_law wsX8_rests := goodIn_r _ [782, 105, 450, 762, 152, 153, 154, 5, 155, 763, 764, 765, 766, 422, 423, 424, 425, 517, 518, 519, 520, 521, 522, 523, 524, 525, 526, 527, 528, 529, 530, 531, 532, 533, 534, 535, 536, 414, 415, 416, 537, 538, 539, 540, 1070, 1071, 1072, 1073, 1074, 1075, 1076, 1077, 1078, 1079, 1080, 1081, 1082, 1083, 1084, 1085] (by decide +kernel) (by decide +kernel)
set_option maxRecDepth 20000 in
theorem gL_law_X8_rests : GoodIn wsL_law (wsV RL 105 RX8 yX8_rests wsX8_rests) := goodIn_app (goodIn_of _ (by decide +kernel)) ggL_law_X8_rests
set_option maxRecDepth 20000 in
theorem ggL_law_X7_fits : GoodIn wsL_law wsX7_fits := goodIn_r _ [786, 23, 118, 15, 32, 605, 606, 607, 22, 608, 66, 119, 120, 14, 121, 122, 2, 123, 461, 170, 171, 172, 173, 174, 175, 176, 177, 43, 178, 179, 180, 181, 44, 127, 128, 129, 130, 37, 131, 787, 190, 191, 192, 788, 789, 790, 31, 791, 92, 93, 792, 793, 626, 363, 364, 365, 64, 65, 67, 68, 69, 70, 71, 72, 366, 210, 211, 212, 73, 74, 75, 76, 77, 78, 79, 709, 475, 476, 477, 478, 479, 480, 481, 482, 483, 484, 485, 486, 487, 488, 361, 489, 490, 491, 492, 493, 494, 495, 496, 497, 498, 499, 500, 794, 795, 796, 797, 45, 142, 143, 144, 145, 1062, 1063, 1064, 1065, 1066, 1067, 1068, 1069, 1096, 1097, 1098, 1099, 1100, 1101, 1102, 1103, 1104, 1105, 1106, 1107, 1108, 1109, 1110, 1111, 1086, 1087, 1088, 1115, 1116] (by decide +kernel) (by decide +kernel)
set_option maxRecDepth 20000 in
theorem gL_law_X7_fits : GoodIn wsL_law (wsV RL 106 RX7 yX7_fits wsX7_fits) := goodIn_app (goodIn_of _ (by decide +kernel)) ggL_law_X7_fits
set_option maxRecDepth 20000 in
theorem ggL_law_X8_fits : GoodIn wsL_law wsX8_fits := goodIn_r _ [801, 150, 512, 152, 105, 108, 614, 615, 616, 5, 617, 153, 154, 155, 802, 803, 804, 805, 106, 156, 157, 158, 159, 160, 161, 422, 423, 424, 425, 517, 518, 519, 520, 521, 522, 523, 524, 525, 526, 527, 528, 529, 530, 531, 532, 533, 534, 535, 536, 414, 415, 416, 537, 538, 539, 540, 162, 163, 164, 165, 1070, 1071, 1072, 1073, 1074, 1075, 1076, 1077, 1078, 1079, 1080, 1081, 1082, 1083, 1084, 1085] (by decide +kernel) (by decide +kernel)
set_option maxRecDepth 20000 in
theorem gL_law_X8_fits : GoodIn wsL_law (wsV RL 110 RX8 yX8_fits wsX8_fits) := goodIn_app (goodIn_of _ (by decide +kernel)) ggL_law_X8_fits
set_option maxRecDepth 20000 in
theorem ggL_law_X7_round : GoodIn wsL_law wsX7_round := goodIn_r _ [809, 23, 118, 32, 605, 606, 607, 22, 608, 66, 810, 811, 812, 31, 813, 92, 93, 793, 626, 363, 364, 365, 64, 65, 67, 68, 69, 70, 71, 72, 366, 210, 211, 212, 73, 74, 75, 76, 77, 78, 79, 709, 475, 476, 477, 478, 479, 480, 481, 482, 483, 484, 485, 486, 487, 488, 361, 489, 490, 491, 492, 493, 494, 495, 496, 497, 498, 499, 500, 1062, 1063, 1064, 1065, 1066, 1067, 1068, 1069, 1096, 1097, 1098, 1099, 1100, 1101, 1102, 1103, 1104, 1105, 1106, 1107, 1108, 1109, 1110, 1111, 1115, 1116] (by decide +kernel) (by decide +kernel)
set_option maxRecDepth 20000 in
theorem gL_law_X7_round : GoodIn wsL_law (wsV RL 111 RX7 yX7_round wsX7_round) := goodIn_app (goodIn_of _ (by decide +kernel)) ggL_law_X7_round
set_option maxRecDepth 20000 in
theorem ggL_law_X8_round : GoodIn wsL_law wsX8_round := goodIn_r _ [817, 152, 105, 614, 615, 616, 5, 617, 153, 154, 155, 422, 423, 424, 425, 517, 518, 519, 520, 521, 522, 523, 524, 525, 526, 527, 528, 529, 530, 531, 532, 533, 534, 535, 536, 414, 415, 416, 537, 538, 539, 540, 1070, 1071, 1072, 1073, 1074, 1075, 1076, 1077, 1078, 1079, 1080, 1081, 1082, 1083, 1084, 1085] (by decide +kernel) (by decide +kernel)
set_option maxRecDepth 20000 in
theorem gL_law_X8_round : GoodIn wsL_law (wsV RL 114 RX8 yX8_round wsX8_round) := goodIn_app (goodIn_of _ (by decide +kernel)) ggL_law_X8_round
set_option maxRecDepth 20000 in
theorem ggL_law_X7_meet : GoodIn wsL_law wsX7_meet := goodIn_r _ [821, 23, 440, 118, 32, 457, 458, 459, 22, 460, 64, 461, 122, 2, 123, 822, 823, 824, 31, 825, 92, 93, 670, 626, 363, 364, 365, 65, 66, 67, 68, 69, 70, 71, 72, 366, 210, 211, 212, 73, 74, 75, 76, 77, 78, 79, 709, 475, 476, 477, 478, 479, 480, 481, 482, 483, 484, 485, 486, 487, 488, 361, 489, 490, 491, 492, 493, 494, 495, 496, 497, 498, 499, 500, 826, 827, 828, 829, 1062, 1063, 1064, 1065, 1066, 1067, 1068, 1069, 1096, 1097, 1098, 1099, 1100, 1101, 1102, 1103, 1104, 1105, 1106, 1107, 1108, 1109, 1110, 1111, 1115, 1116] (by decide +kernel) (by decide +kernel)
set_option maxRecDepth 20000 in
theorem gL_law_X7_meet : GoodIn wsL_law (wsV RL 115 RX7 yX7_meet wsX7_meet) := goodIn_app (goodIn_of _ (by decide +kernel)) ggL_law_X7_meet
set_option maxRecDepth 20000 in
theorem ggL_law_X8_meet : GoodIn wsL_law wsX8_meet := goodIn_r _ [833, 105, 450, 632, 152, 421, 153, 154, 5, 155, 422, 423, 424, 425, 517, 518, 519, 520, 521, 522, 523, 524, 525, 526, 527, 528, 529, 530, 531, 532, 533, 534, 535, 536, 414, 415, 416, 537, 538, 539, 540, 834, 835, 836, 837, 1070, 1071, 1072, 1073, 1074, 1075, 1076, 1077, 1078, 1079, 1080, 1081, 1082, 1083, 1084, 1085] (by decide +kernel) (by decide +kernel)
set_option maxRecDepth 20000 in
theorem gL_law_X8_meet : GoodIn wsL_law (wsV RL 118 RX8 yX8_meet wsX8_meet) := goodIn_app (goodIn_of _ (by decide +kernel)) ggL_law_X8_meet
set_option maxRecDepth 20000 in
theorem ggL_law_X7_slept : GoodIn wsL_law wsX7_slept := goodIn_r _ [841, 23, 118, 15, 726, 256, 32, 605, 606, 607, 22, 608, 66, 119, 120, 14, 121, 122, 2, 123, 461, 170, 171, 172, 173, 174, 175, 176, 177, 43, 178, 179, 180, 181, 44, 127, 128, 129, 130, 37, 131, 787, 190, 191, 192, 842, 843, 844, 31, 845, 92, 93, 793, 846, 670, 626, 363, 364, 365, 64, 65, 67, 68, 69, 70, 71, 72, 366, 210, 211, 212, 73, 74, 75, 76, 77, 78, 79, 847, 848, 849, 850, 851, 267, 268, 269, 265, 47, 48, 49, 627, 471, 472, 473, 474, 475, 476, 477, 478, 479, 480, 481, 482, 483, 484, 485, 486, 487, 488, 361, 489, 490, 491, 492, 493, 494, 495, 496, 497, 498, 499, 500, 501, 502, 503, 504, 505, 506, 468, 507, 337, 338, 339, 689, 643, 644, 645, 794, 795, 796, 797, 45, 142, 143, 144, 145, 1062, 1063, 1064, 1065, 1066, 1067, 1068, 1069, 1096, 1097, 1098, 1099, 1100, 1101, 1102, 1103, 1104, 1105, 1106, 1107, 1108, 1109, 1110, 1111, 1086, 1087, 1088, 1115, 1116] (by decide +kernel) (by decide +kernel)
set_option maxRecDepth 20000 in
theorem gL_law_X7_slept : GoodIn wsL_law (wsV RL 119 RX7 yX7_slept wsX7_slept) := goodIn_app (goodIn_of _ (by decide +kernel)) ggL_law_X7_slept
set_option maxRecDepth 20000 in
theorem ggL_law_X8_slept : GoodIn wsL_law wsX8_slept := goodIn_r _ [855, 150, 856, 152, 421, 105, 108, 614, 615, 616, 5, 617, 153, 154, 155, 802, 803, 804, 805, 106, 156, 157, 158, 159, 160, 161, 857, 858, 859, 860, 422, 423, 424, 425, 517, 518, 519, 520, 521, 522, 523, 524, 525, 526, 527, 528, 529, 530, 531, 532, 533, 534, 535, 536, 414, 415, 416, 537, 538, 539, 540, 650, 651, 652, 653, 162, 163, 164, 165, 1070, 1071, 1072, 1073, 1074, 1075, 1076, 1077, 1078, 1079, 1080, 1081, 1082, 1083, 1084, 1085] (by decide +kernel) (by decide +kernel)
set_option maxRecDepth 20000 in
theorem gL_law_X8_slept : GoodIn wsL_law (wsV RL 122 RX8 yX8_slept wsX8_slept) := goodIn_app (goodIn_of _ (by decide +kernel)) ggL_law_X8_slept
set_option maxRecDepth 20000 in
theorem ggL_law_X7_late : GoodIn wsL_law wsX7_late := goodIn_r _ [864, 23, 865, 32, 605, 606, 607, 22, 608, 66, 546, 334, 335, 336, 64, 461, 122, 2, 123, 866, 867, 868, 31, 869, 92, 93, 793, 626, 363, 364, 365, 65, 67, 68, 69, 70, 71, 72, 366, 210, 211, 212, 73, 74, 75, 76, 77, 78, 79, 847, 848, 849, 850, 870, 871, 872, 873, 874, 875, 709, 475, 476, 477, 478, 479, 480, 481, 482, 483, 484, 485, 486, 487, 488, 361, 489, 490, 491, 492, 493, 494, 495, 496, 497, 498, 499, 500, 876, 877, 878, 879, 880, 881, 468, 882, 1062, 1063, 1064, 1065, 1066, 1067, 1068, 1069, 1096, 1097, 1098, 1099, 1100, 1101, 1102, 1103, 1104, 1105, 1106, 1107, 1108, 1109, 1110, 1111, 1115, 1116] (by decide +kernel) (by decide +kernel)
set_option maxRecDepth 20000 in
theorem gL_law_X7_late : GoodIn wsL_law (wsV RL 123 RX7 yX7_late wsX7_late) := goodIn_app (goodIn_of _ (by decide +kernel)) ggL_law_X7_late
set_option maxRecDepth 20000 in
theorem ggL_law_X8_late : GoodIn wsL_law wsX8_late := goodIn_r _ [886, 887, 888, 889, 105, 614, 615, 616, 5, 617, 153, 154, 155, 552, 553, 554, 555, 422, 423, 424, 425, 517, 518, 519, 520, 521, 522, 523, 524, 525, 526, 527, 528, 529, 530, 531, 532, 533, 534, 535, 536, 414, 415, 416, 537, 538, 539, 540, 1070, 1071, 1072, 1073, 1074, 1075, 1076, 1077, 1078, 1079, 1080, 1081, 1082, 1083, 1084, 1085] (by decide +kernel) (by decide +kernel)
set_option maxRecDepth 20000 in
theorem gL_law_X8_late : GoodIn wsL_law (wsV RL 127 RX8 yX8_late wsX8_late) := goodIn_app (goodIn_of _ (by decide +kernel)) ggL_law_X8_late
set_option maxRecDepth 20000 in
theorem ggL_law_X7_year : GoodIn wsL_law wsX7_year := goodIn_r _ [893, 23, 440, 894, 118, 32, 456, 457, 458, 459, 22, 460, 64, 461, 122, 2, 123, 895, 896, 897, 31, 898, 92, 93, 688, 899, 900, 626, 363, 364, 365, 65, 66, 67, 68, 69, 70, 71, 72, 366, 210, 211, 212, 73, 74, 75, 76, 77, 78, 79, 901, 566, 567, 568, 709, 475, 476, 477, 478, 479, 480, 481, 482, 483, 484, 485, 486, 487, 488, 361, 489, 490, 491, 492, 493, 494, 495, 496, 497, 498, 499, 500, 902, 903, 904, 905, 1062, 1063, 1064, 1065, 1066, 1067, 1068, 1069, 1096, 1097, 1098, 1099, 1100, 1101, 1102, 1103, 1104, 1105, 1106, 1107, 1108, 1109, 1110, 1111, 1115, 1116] (by decide +kernel) (by decide +kernel)
set_option maxRecDepth 20000 in
theorem gL_law_X7_year : GoodIn wsL_law (wsV RL 128 RX7 yX7_year wsX7_year) := goodIn_app (goodIn_of _ (by decide +kernel)) ggL_law_X7_year
set_option maxRecDepth 20000 in
theorem ggL_law_X8_year : GoodIn wsL_law wsX8_year := goodIn_r _ [909, 105, 450, 632, 910, 152, 911, 912, 153, 154, 5, 155, 422, 423, 424, 425, 517, 518, 519, 520, 521, 522, 523, 524, 525, 526, 527, 528, 529, 530, 531, 532, 533, 534, 535, 536, 414, 415, 416, 537, 538, 539, 540, 1070, 1071, 1072, 1073, 1074, 1075, 1076, 1077, 1078, 1079, 1080, 1081, 1082, 1083, 1084, 1085] (by decide +kernel) (by decide +kernel)
set_option maxRecDepth 20000 in
theorem gL_law_X8_year : GoodIn wsL_law (wsV RL 131 RX8 yX8_year wsX8_year) := goodIn_app (goodIn_of _ (by decide +kernel)) ggL_law_X8_year
set_option maxRecDepth 20000 in
theorem ggL_law_X7_image : GoodIn wsL_law wsX7_image := goodIn_r _ [916, 118, 23, 440, 28, 20, 21, 22, 461, 122, 2, 123, 457, 458, 459, 460, 64, 61, 62, 63, 10, 11, 65, 66, 67, 68, 69, 70, 71, 42, 72, 73, 74, 75, 76, 77, 78, 79, 917, 363, 364, 365, 366, 210, 211, 212, 1062, 1063, 1064, 1065, 1066, 1067, 1068, 1069, 1096, 1097, 1098, 1099, 1100, 1101, 1102, 1103, 1104, 1105, 1106, 1107, 1108, 1109, 1110, 1111] (by decide +kernel) (by decide +kernel)
set_option maxRecDepth 20000 in
theorem gL_law_X7_image : GoodIn wsL_law (wsV RL 132 RX7 yX7_image wsX7_image) := goodIn_app (goodIn_of _ (by decide +kernel)) ggL_law_X7_image
set_option maxRecDepth 20000 in
theorem ggL_law_X8_image : GoodIn wsL_law wsX8_image := goodIn_r _ [921, 152, 105, 450, 153, 154, 5, 155, 422, 423, 424, 425, 1070, 1071, 1072, 1073, 1074, 1075, 1076, 1077, 1078, 1079, 1080, 1081, 1082, 1083, 1084, 1085] (by decide +kernel) (by decide +kernel)
set_option maxRecDepth 20000 in
theorem gL_law_X8_image : GoodIn wsL_law (wsV RL 135 RX8 yX8_image wsX8_image) := goodIn_app (goodIn_of _ (by decide +kernel)) ggL_law_X8_image
