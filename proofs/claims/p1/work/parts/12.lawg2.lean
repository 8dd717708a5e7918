set_option maxRecDepth 20000 in
theorem ggL_law_X7_cold : GoodIn wsL_law wsX7_cold := goodIn_r _ [640, 23, 440, 118, 32, 456, 641, 457, 458, 459, 22, 460, 64, 461, 122, 2, 123, 622, 623, 624, 31, 625, 92, 93, 626, 363, 364, 365, 65, 66, 67, 68, 69, 70, 71, 72, 366, 210, 211, 212, 73, 74, 75, 76, 77, 78, 79, 627, 471, 472, 473, 474, 475, 476, 477, 478, 479, 480, 481, 482, 483, 484, 485, 486, 487, 488, 361, 489, 490, 491, 492, 493, 494, 495, 496, 497, 498, 499, 500, 501, 502, 503, 504, 505, 506, 468, 507, 337, 338, 339, 642, 643, 644, 645, 1062, 1063, 1064, 1065, 1066, 1067, 1068, 1069, 1096, 1097, 1098, 1099, 1100, 1101, 1102, 1103, 1104, 1105, 1106, 1107, 1108, 1109, 1110, 1111, 1115, 1116] (by decide +kernel) (by decide +kernel)
set_option maxRecDepth 20000 in
theorem gL_law_X7_cold : GoodIn wsL_law (wsV RL 74 RX7 yX7_cold wsX7_cold) := goodIn_app (goodIn_of _ (by decide +kernel)) ggL_law_X7_cold
set_option maxRecDepth 20000 in
theorem ggL_law_X8_cold : GoodIn wsL_law wsX8_cold := goodIn_r _ [649, 105, 450, 632, 151, 152, 153, 154, 5, 155, 633, 634, 635, 636, 422, 423, 424, 425, 517, 518, 519, 520, 521, 522, 523, 524, 525, 526, 527, 528, 529, 530, 531, 532, 533, 534, 535, 536, 414, 415, 416, 537, 538, 539, 540, 650, 651, 652, 653, 1070, 1071, 1072, 1073, 1074, 1075, 1076, 1077, 1078, 1079, 1080, 1081, 1082, 1083, 1084, 1085] (by decide +kernel) (by decide +kernel)
set_option maxRecDepth 20000 in
theorem gL_law_X8_cold : GoodIn wsL_law (wsV RL 77 RX8 yX8_cold wsX8_cold) := goodIn_app (goodIn_of _ (by decide +kernel)) ggL_law_X8_cold
set_option maxRecDepth 20000 in
theorem ggL_law_X7_nights : GoodIn wsL_law wsX7_nights := goodIn_r _ [657, 23, 118, 32, 588, 546, 334, 335, 22, 336, 64, 461, 122, 2, 123, 622, 623, 624, 31, 625, 92, 93, 626, 363, 364, 365, 65, 66, 67, 68, 69, 70, 71, 72, 366, 210, 211, 212, 73, 74, 75, 76, 77, 78, 79, 627, 471, 472, 473, 474, 475, 476, 477, 478, 479, 480, 481, 482, 483, 484, 485, 486, 487, 488, 361, 489, 490, 491, 492, 493, 494, 495, 496, 497, 498, 499, 500, 501, 502, 503, 504, 505, 506, 468, 507, 337, 338, 339, 1062, 1063, 1064, 1065, 1066, 1067, 1068, 1069, 1096, 1097, 1098, 1099, 1100, 1101, 1102, 1103, 1104, 1105, 1106, 1107, 1108, 1109, 1110, 1111, 1115, 1116] (by decide +kernel) (by decide +kernel)
set_option maxRecDepth 20000 in
theorem gL_law_X7_nights : GoodIn wsL_law (wsV RL 78 RX7 yX7_nights wsX7_nights) := goodIn_app (goodIn_of _ (by decide +kernel)) ggL_law_X7_nights
set_option maxRecDepth 20000 in
theorem ggL_law_X8_nights : GoodIn wsL_law wsX8_nights := goodIn_r _ [661, 632, 152, 105, 552, 553, 554, 5, 555, 153, 154, 155, 633, 634, 635, 636, 422, 423, 424, 425, 517, 518, 519, 520, 521, 522, 523, 524, 525, 526, 527, 528, 529, 530, 531, 532, 533, 534, 535, 536, 414, 415, 416, 537, 538, 539, 540, 1070, 1071, 1072, 1073, 1074, 1075, 1076, 1077, 1078, 1079, 1080, 1081, 1082, 1083, 1084, 1085] (by decide +kernel) (by decide +kernel)
set_option maxRecDepth 20000 in
theorem gL_law_X8_nights : GoodIn wsL_law (wsV RL 81 RX8 yX8_nights wsX8_nights) := goodIn_app (goodIn_of _ (by decide +kernel)) ggL_law_X8_nights
set_option maxRecDepth 20000 in
theorem ggL_law_X7_freezes : GoodIn wsL_law wsX7_freezes := goodIn_r _ [665, 23, 118, 32, 546, 334, 335, 22, 336, 64, 461, 122, 2, 123, 666, 667, 668, 31, 669, 92, 93, 670, 626, 363, 364, 365, 65, 66, 67, 68, 69, 70, 71, 72, 366, 210, 211, 212, 73, 74, 75, 76, 77, 78, 79, 627, 471, 472, 473, 474, 475, 476, 477, 478, 479, 480, 481, 482, 483, 484, 485, 486, 487, 488, 361, 489, 490, 491, 492, 493, 494, 495, 496, 497, 498, 499, 500, 501, 502, 503, 504, 505, 506, 468, 507, 337, 338, 339, 671, 591, 592, 593, 1062, 1063, 1064, 1065, 1066, 1067, 1068, 1069, 1096, 1097, 1098, 1099, 1100, 1101, 1102, 1103, 1104, 1105, 1106, 1107, 1108, 1109, 1110, 1111, 1115, 1116] (by decide +kernel) (by decide +kernel)
set_option maxRecDepth 20000 in
theorem gL_law_X7_freezes : GoodIn wsL_law (wsV RL 82 RX7 yX7_freezes wsX7_freezes) := goodIn_app (goodIn_of _ (by decide +kernel)) ggL_law_X7_freezes
set_option maxRecDepth 20000 in
theorem ggL_law_X8_freezes : GoodIn wsL_law wsX8_freezes := goodIn_r _ [675, 632, 152, 552, 553, 554, 5, 555, 105, 153, 154, 155, 676, 677, 678, 679, 421, 422, 423, 424, 425, 517, 518, 519, 520, 521, 522, 523, 524, 525, 526, 527, 528, 529, 530, 531, 532, 533, 534, 535, 536, 414, 415, 416, 537, 538, 539, 540, 1070, 1071, 1072, 1073, 1074, 1075, 1076, 1077, 1078, 1079, 1080, 1081, 1082, 1083, 1084, 1085] (by decide +kernel) (by decide +kernel)
set_option maxRecDepth 20000 in
theorem gL_law_X8_freezes : GoodIn wsL_law (wsV RL 85 RX8 yX8_freezes wsX8_freezes) := goodIn_app (goodIn_of _ (by decide +kernel)) ggL_law_X8_freezes
set_option maxRecDepth 20000 in
theorem ggL_law_X7_warn : GoodIn wsL_law wsX7_warn := goodIn_r _ [683, 23, 440, 118, 32, 457, 458, 459, 22, 460, 64, 461, 122, 2, 123, 684, 685, 686, 31, 687, 92, 93, 688, 670, 626, 363, 364, 365, 65, 66, 67, 68, 69, 70, 71, 72, 366, 210, 211, 212, 73, 74, 75, 76, 77, 78, 79, 627, 471, 472, 473, 474, 475, 476, 477, 478, 479, 480, 481, 482, 483, 484, 485, 486, 487, 488, 361, 489, 490, 491, 492, 493, 494, 495, 496, 497, 498, 499, 500, 501, 502, 503, 504, 505, 506, 468, 507, 337, 338, 339, 689, 643, 644, 645, 690, 1062, 1063, 1064, 1065, 1066, 1067, 1068, 1069, 1096, 1097, 1098, 1099, 1100, 1101, 1102, 1103, 1104, 1105, 1106, 1107, 1108, 1109, 1110, 1111, 1115, 1116] (by decide +kernel) (by decide +kernel)
set_option maxRecDepth 20000 in
theorem gL_law_X7_warn : GoodIn wsL_law (wsV RL 86 RX7 yX7_warn wsX7_warn) := goodIn_app (goodIn_of _ (by decide +kernel)) ggL_law_X7_warn
set_option maxRecDepth 20000 in
theorem ggL_law_X8_warn : GoodIn wsL_law wsX8_warn := goodIn_r _ [694, 105, 450, 695, 150, 152, 113, 421, 153, 154, 5, 155, 676, 677, 678, 679, 422, 423, 424, 425, 517, 518, 519, 520, 521, 522, 523, 524, 525, 526, 527, 528, 529, 530, 531, 532, 533, 534, 535, 536, 414, 415, 416, 537, 538, 539, 540, 1070, 1071, 1072, 1073, 1074, 1075, 1076, 1077, 1078, 1079, 1080, 1081, 1082, 1083, 1084, 1085] (by decide +kernel) (by decide +kernel)
set_option maxRecDepth 20000 in
theorem gL_law_X8_warn : GoodIn wsL_law (wsV RL 89 RX8 yX8_warn wsX8_warn) := goodIn_app (goodIn_of _ (by decide +kernel)) ggL_law_X8_warn
set_option maxRecDepth 20000 in
theorem ggL_law_X7_lure : GoodIn wsL_law wsX7_lure := goodIn_r _ [699, 23, 118, 32, 546, 334, 335, 22, 336, 64, 461, 122, 2, 123, 700, 701, 702, 31, 703, 92, 93, 704, 670, 626, 363, 364, 365, 65, 66, 67, 68, 69, 70, 71, 72, 366, 210, 211, 212, 73, 74, 75, 76, 77, 78, 79, 705, 706, 707, 708, 709, 475, 476, 477, 478, 479, 480, 481, 482, 483, 484, 485, 486, 487, 488, 361, 489, 490, 491, 492, 493, 494, 495, 496, 497, 498, 499, 500, 710, 711, 712, 713, 1062, 1063, 1064, 1065, 1066, 1067, 1068, 1069, 1096, 1097, 1098, 1099, 1100, 1101, 1102, 1103, 1104, 1105, 1106, 1107, 1108, 1109, 1110, 1111, 1115, 1116] (by decide +kernel) (by decide +kernel)
set_option maxRecDepth 20000 in
theorem gL_law_X7_lure : GoodIn wsL_law (wsV RL 90 RX7 yX7_lure wsX7_lure) := goodIn_app (goodIn_of _ (by decide +kernel)) ggL_law_X7_lure
set_option maxRecDepth 20000 in
theorem ggL_law_X8_lure : GoodIn wsL_law wsX8_lure := goodIn_r _ [717, 632, 152, 105, 421, 552, 553, 554, 5, 555, 153, 154, 155, 422, 423, 424, 425, 718, 719, 720, 721, 517, 518, 519, 520, 521, 522, 523, 524, 525, 526, 527, 528, 529, 530, 531, 532, 533, 534, 535, 536, 414, 415, 416, 537, 538, 539, 540, 1070, 1071, 1072, 1073, 1074, 1075, 1076, 1077, 1078, 1079, 1080, 1081, 1082, 1083, 1084, 1085] (by decide +kernel) (by decide +kernel)
set_option maxRecDepth 20000 in
theorem gL_law_X8_lure : GoodIn wsL_law (wsV RL 93 RX8 yX8_lure wsX8_lure) := goodIn_app (goodIn_of _ (by decide +kernel)) ggL_law_X8_lure
set_option maxRecDepth 20000 in
theorem ggL_law_X7_keepsAway : GoodIn wsL_law wsX7_keepsAway := goodIn_r _ [725, 23, 118, 32, 726, 546, 334, 335, 22, 336, 64, 461, 122, 2, 123, 727, 728, 729, 31, 730, 93, 688, 731, 670, 732, 570, 571, 572, 573, 574, 575, 733, 734, 735, 736, 92, 626, 363, 364, 365, 65, 66, 67, 68, 69, 70, 71, 72, 366, 210, 211, 212, 73, 74, 75, 76, 77, 78, 79, 705, 706, 707, 708, 709, 475, 476, 477, 478, 479, 480, 481, 482, 483, 484, 485, 486, 487, 488, 361, 489, 490, 491, 492, 493, 494, 495, 496, 497, 498, 499, 500, 710, 711, 712, 713, 569, 1062, 1063, 1064, 1065, 1066, 1067, 1068, 1069, 1096, 1097, 1098, 1099, 1100, 1101, 1102, 1103, 1104, 1105, 1106, 1107, 1108, 1109, 1110, 1111, 1115, 1116] (by decide +kernel) (by decide +kernel)
set_option maxRecDepth 20000 in
theorem gL_law_X7_keepsAway : GoodIn wsL_law (wsV RL 94 RX7 yX7_keepsAway wsX7_keepsAway) := goodIn_app (goodIn_of _ (by decide +kernel)) ggL_law_X7_keepsAway
set_option maxRecDepth 20000 in
theorem ggL_law_X8_keepsAway : GoodIn wsL_law wsX8_keepsAway := goodIn_r _ [740, 632, 152, 105, 421, 552, 553, 554, 5, 555, 153, 154, 155, 580, 581, 582, 422, 423, 424, 425, 718, 719, 720, 721, 517, 518, 519, 520, 521, 522, 523, 524, 525, 526, 527, 528, 529, 530, 531, 532, 533, 534, 535, 536, 414, 415, 416, 537, 538, 539, 540, 1070, 1071, 1072, 1073, 1074, 1075, 1076, 1077, 1078, 1079, 1080, 1081, 1082, 1083, 1084, 1085] (by decide +kernel) (by decide +kernel)
set_option maxRecDepth 20000 in
theorem gL_law_X8_keepsAway : GoodIn wsL_law (wsV RL 97 RX8 yX8_keepsAway wsX8_keepsAway) := goodIn_app (goodIn_of _ (by decide +kernel)) ggL_law_X8_keepsAway
set_option maxRecDepth 20000 in
theorem ggL_law_X7_bid : GoodIn wsL_law wsX7_bid := goodIn_r _ [744, 23, 118, 32, 546, 334, 335, 22, 336, 64, 461, 122, 2, 123, 745, 746, 747, 31, 748, 749, 750, 751, 752, 92, 93, 704, 626, 363, 364, 365, 65, 66, 67, 68, 69, 70, 71, 72, 366, 210, 211, 212, 73, 74, 75, 76, 77, 78, 79, 709, 475, 476, 477, 478, 479, 480, 481, 482, 483, 484, 485, 486, 487, 488, 361, 489, 490, 491, 492, 493, 494, 495, 496, 497, 498, 499, 500, 753, 754, 755, 756, 757, 1062, 1063, 1064, 1065, 1066, 1067, 1068, 1069, 1096, 1097, 1098, 1099, 1100, 1101, 1102, 1103, 1104, 1105, 1106, 1107, 1108, 1109, 1110, 1111, 1115, 1116] (by decide +kernel) (by decide +kernel)
set_option maxRecDepth 20000 in
theorem gL_law_X7_bid : GoodIn wsL_law (wsV RL 98 RX7 yX7_bid wsX7_bid) := goodIn_app (goodIn_of _ (by decide +kernel)) ggL_law_X7_bid
set_option maxRecDepth 20000 in
theorem ggL_law_X8_bid : GoodIn wsL_law wsX8_bid := goodIn_r _ [761, 762, 152, 552, 553, 554, 5, 555, 105, 153, 154, 155, 763, 764, 765, 766, 422, 423, 424, 425, 517, 518, 519, 520, 521, 522, 523, 524, 525, 526, 527, 528, 529, 530, 531, 532, 533, 534, 535, 536, 414, 415, 416, 537, 538, 539, 540, 1070, 1071, 1072, 1073, 1074, 1075, 1076, 1077, 1078, 1079, 1080, 1081, 1082, 1083, 1084, 1085] (by decide +kernel) (by decide +kernel)
set_option maxRecDepth 20000 in
theorem gL_law_X8_bid : GoodIn wsL_law (wsV RL 101 RX8 yX8_bid wsX8_bid) := goodIn_app (goodIn_of _ (by decide +kernel)) ggL_law_X8_bid
set_option maxRecDepth 20000 in
theorem ggL_law_X7_rests : GoodIn wsL_law wsX7_rests := goodIn_r _ [770, 23, 440, 118, 32, 457, 458, 459, 22, 460, 64, 461, 122, 2, 123, 771, 772, 773, 31, 774, 93, 688, 775, 776, 777, 778, 704, 749, 750, 751, 752, 92, 626, 363, 364, 365, 65, 66, 67, 68, 69, 70, 71, 72, 366, 210, 211, 212, 73, 74, 75, 76, 77, 78, 79, 709, 475, 476, 477, 478, 479, 480, 481, 482, 483, 484, 485, 486, 487, 488, 361, 489, 490, 491, 492, 493, 494, 495, 496, 497, 498, 499, 500, 753, 754, 755, 756, 1062, 1063, 1064, 1065, 1066, 1067, 1068, 1069, 1096, 1097, 1098, 1099, 1100, 1101, 1102, 1103, 1104, 1105, 1106, 1107, 1108, 1109, 1110, 1111, 1115, 1116] (by decide +kernel) (by decide +kernel)
set_option maxRecDepth 20000 in
theorem gL_law_X7_rests : GoodIn wsL_law (wsV RL 102 RX7 yX7_rests wsX7_rests) := goodIn_app (goodIn_of _ (by decide +kernel)) ggL_law_X7_rests
