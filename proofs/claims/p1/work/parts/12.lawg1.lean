set_option maxRecDepth 20000 in
theorem ggL_law_X8_fault : GoodIn wsL_law wsX8_fault := goodIn_r _ [434, 396, 1070, 1071, 1072, 1073, 1074, 1075, 1076, 1077, 1078, 1079, 1080, 1081, 1082, 1083, 1084, 1085] (by decide +kernel) (by decide +kernel)
set_option maxRecDepth 20000 in
theorem gL_law_X8_fault : GoodIn wsL_law (wsV RL 44 RX8 yX8_fault wsX8_fault) := goodIn_app (goodIn_of _ (by decide +kernel)) ggL_law_X8_fault
set_option maxRecDepth 20000 in
theorem ggL_law_X7_undo : GoodIn wsL_law wsX7_undo := goodIn_r _ [438, 27, 439, 440, 23, 441, 442, 443, 26, 444, 85, 86, 84, 445, 363, 364, 22, 365, 64, 65, 66, 67, 68, 69, 70, 71, 72, 366, 210, 211, 212, 73, 74, 75, 76, 77, 78, 79, 1062, 1063, 1064, 1065, 1066, 1067, 1068, 1069, 1112, 1113, 1114, 1096, 1097, 1098, 1099, 1100, 1101, 1102, 1103, 1104, 1105, 1106, 1107, 1108, 1109, 1110, 1111] (by decide +kernel) (by decide +kernel)
set_option maxRecDepth 20000 in
theorem gL_law_X7_undo : GoodIn wsL_law (wsV RL 45 RX7 yX7_undo wsX7_undo) := goodIn_app (goodIn_of _ (by decide +kernel)) ggL_law_X7_undo
set_option maxRecDepth 20000 in
theorem ggL_law_X8_undo : GoodIn wsL_law wsX8_undo := goodIn_r _ [449, 377, 450, 422, 423, 424, 5, 425, 105, 1070, 1071, 1072, 1073, 1074, 1075, 1076, 1077, 1078, 1079, 1080, 1081, 1082, 1083, 1084, 1085] (by decide +kernel) (by decide +kernel)
set_option maxRecDepth 20000 in
theorem gL_law_X8_undo : GoodIn wsL_law (wsV RL 48 RX8 yX8_undo wsX8_undo) := goodIn_app (goodIn_of _ (by decide +kernel)) ggL_law_X8_undo
set_option maxRecDepth 20000 in
theorem ggL_law_X7_days : GoodIn wsL_law wsX7_days := goodIn_r _ [454, 23, 440, 118, 455, 234, 27, 456, 457, 458, 459, 22, 460, 64, 461, 122, 2, 123, 462, 463, 464, 26, 465, 84, 85, 83, 21, 86, 466, 467, 468, 469, 61, 62, 63, 10, 11, 65, 66, 67, 68, 69, 70, 71, 42, 72, 73, 74, 75, 76, 77, 78, 79, 445, 363, 364, 365, 366, 210, 211, 212, 470, 471, 472, 473, 474, 475, 476, 477, 478, 479, 480, 481, 482, 483, 484, 485, 486, 487, 488, 361, 489, 490, 491, 492, 493, 494, 495, 496, 497, 498, 499, 500, 501, 502, 503, 504, 505, 506, 507, 337, 338, 339, 1062, 1063, 1064, 1065, 1066, 1067, 1068, 1069, 1096, 1097, 1098, 1099, 1100, 1101, 1102, 1103, 1104, 1105, 1106, 1107, 1108, 1109, 1110, 1111, 1112, 1113, 1114] (by decide +kernel) (by decide +kernel)
set_option maxRecDepth 20000 in
theorem gL_law_X7_days : GoodIn wsL_law (wsV RL 49 RX7 yX7_days wsX7_days) := goodIn_app (goodIn_of _ (by decide +kernel)) ggL_law_X7_days
set_option maxRecDepth 20000 in
theorem ggL_law_X8_days : GoodIn wsL_law wsX8_days := goodIn_r _ [511, 105, 450, 512, 152, 249, 153, 154, 5, 155, 513, 514, 515, 516, 377, 422, 423, 424, 425, 517, 518, 519, 520, 521, 522, 523, 524, 525, 526, 527, 528, 529, 530, 531, 532, 533, 534, 535, 536, 414, 415, 416, 537, 538, 539, 540, 1070, 1071, 1072, 1073, 1074, 1075, 1076, 1077, 1078, 1079, 1080, 1081, 1082, 1083, 1084, 1085] (by decide +kernel) (by decide +kernel)
set_option maxRecDepth 20000 in
theorem gL_law_X8_days : GoodIn wsL_law (wsV RL 52 RX8 yX8_days wsX8_days) := goodIn_app (goodIn_of _ (by decide +kernel)) ggL_law_X8_days
set_option maxRecDepth 20000 in
theorem ggL_law_X7_offer : GoodIn wsL_law wsX7_offer := goodIn_r _ [544, 23, 118, 545, 27, 546, 334, 335, 22, 336, 64, 461, 122, 2, 123, 462, 463, 464, 26, 465, 84, 85, 83, 21, 86, 466, 467, 468, 469, 61, 62, 63, 10, 11, 65, 66, 67, 68, 69, 70, 71, 42, 72, 73, 74, 75, 76, 77, 78, 79, 445, 363, 364, 365, 366, 210, 211, 212, 1062, 1063, 1064, 1065, 1066, 1067, 1068, 1069, 1096, 1097, 1098, 1099, 1100, 1101, 1102, 1103, 1104, 1105, 1106, 1107, 1108, 1109, 1110, 1111, 1112, 1113, 1114] (by decide +kernel) (by decide +kernel)
set_option maxRecDepth 20000 in
theorem gL_law_X7_offer : GoodIn wsL_law (wsV RL 53 RX7 yX7_offer wsX7_offer) := goodIn_app (goodIn_of _ (by decide +kernel)) ggL_law_X7_offer
set_option maxRecDepth 20000 in
theorem ggL_law_X8_offer : GoodIn wsL_law wsX8_offer := goodIn_r _ [550, 551, 152, 105, 552, 553, 554, 5, 555, 153, 154, 155, 513, 514, 515, 516, 377, 422, 423, 424, 425, 1070, 1071, 1072, 1073, 1074, 1075, 1076, 1077, 1078, 1079, 1080, 1081, 1082, 1083, 1084, 1085] (by decide +kernel) (by decide +kernel)
set_option maxRecDepth 20000 in
theorem gL_law_X8_offer : GoodIn wsL_law (wsV RL 57 RX8 yX8_offer wsX8_offer) := goodIn_app (goodIn_of _ (by decide +kernel)) ggL_law_X8_offer
set_option maxRecDepth 20000 in
theorem ggL_law_X7_door : GoodIn wsL_law wsX7_door := goodIn_r _ [559, 23, 118, 440, 27, 560, 546, 334, 335, 22, 336, 64, 461, 122, 2, 123, 561, 562, 563, 564, 68, 337, 338, 339, 462, 463, 464, 26, 465, 84, 85, 83, 21, 86, 466, 467, 468, 469, 61, 62, 63, 10, 11, 65, 66, 67, 69, 70, 71, 42, 72, 73, 74, 75, 76, 77, 78, 79, 445, 363, 364, 365, 366, 210, 211, 212, 565, 566, 567, 568, 569, 570, 571, 572, 573, 574, 575, 1062, 1063, 1064, 1065, 1066, 1067, 1068, 1069, 1096, 1097, 1098, 1099, 1100, 1101, 1102, 1103, 1104, 1105, 1106, 1107, 1108, 1109, 1110, 1111, 1112, 1113, 1114] (by decide +kernel) (by decide +kernel)
set_option maxRecDepth 20000 in
theorem gL_law_X7_door : GoodIn wsL_law (wsV RL 58 RX7 yX7_door wsX7_door) := goodIn_app (goodIn_of _ (by decide +kernel)) ggL_law_X7_door
set_option maxRecDepth 20000 in
theorem ggL_law_X8_door : GoodIn wsL_law wsX8_door := goodIn_r _ [579, 152, 105, 450, 552, 553, 554, 5, 555, 153, 154, 155, 513, 514, 515, 516, 377, 422, 423, 424, 425, 580, 581, 582, 1070, 1071, 1072, 1073, 1074, 1075, 1076, 1077, 1078, 1079, 1080, 1081, 1082, 1083, 1084, 1085] (by decide +kernel) (by decide +kernel)
set_option maxRecDepth 20000 in
theorem gL_law_X8_door : GoodIn wsL_law (wsV RL 61 RX8 yX8_door wsX8_door) := goodIn_app (goodIn_of _ (by decide +kernel)) ggL_law_X8_door
set_option maxRecDepth 20000 in
theorem ggL_law_X7_village : GoodIn wsL_law wsX7_village := goodIn_r _ [586, 23, 118, 587, 545, 588, 589, 546, 334, 335, 22, 336, 64, 561, 562, 563, 564, 68, 337, 338, 339, 590, 591, 592, 593, 76, 69, 505, 506, 468, 507, 1062, 1063, 1064, 1065, 1066, 1067, 1068, 1069, 1096, 1097, 1098, 1099, 1100, 1101, 1102, 1103, 1104, 1105, 1106, 1107, 1108, 1109, 1110, 1111] (by decide +kernel) (by decide +kernel)
set_option maxRecDepth 20000 in
theorem gL_law_X7_village : GoodIn wsL_law (wsV RL 62 RX7 yX7_village wsX7_village) := goodIn_app (goodIn_of _ (by decide +kernel)) ggL_law_X7_village
set_option maxRecDepth 20000 in
theorem ggL_law_X8_village : GoodIn wsL_law wsX8_village := goodIn_r _ [597, 598, 152, 105, 552, 553, 554, 5, 555, 153, 154, 155, 1070, 1071, 1072, 1073, 1074, 1075, 1076, 1077, 1078, 1079, 1080, 1081, 1082, 1083, 1084, 1085] (by decide +kernel) (by decide +kernel)
set_option maxRecDepth 20000 in
theorem gL_law_X8_village : GoodIn wsL_law (wsV RL 65 RX8 yX8_village wsX8_village) := goodIn_app (goodIn_of _ (by decide +kernel)) ggL_law_X8_village
set_option maxRecDepth 20000 in
theorem ggL_law_X7_walker : GoodIn wsL_law wsX7_walker := goodIn_r _ [602, 23, 118, 603, 604, 605, 606, 607, 22, 608, 66, 609, 479, 480, 481, 78, 74, 68, 77, 69, 79, 482, 483, 484, 485, 64, 73, 486, 487, 488, 361, 489, 490, 491, 492, 493, 75, 1062, 1063, 1064, 1065, 1066, 1067, 1068, 1069, 1096, 1097, 1098, 1099, 1100, 1101, 1102, 1103, 1104, 1105, 1106, 1107, 1108, 1109, 1110, 1111] (by decide +kernel) (by decide +kernel)
set_option maxRecDepth 20000 in
theorem gL_law_X7_walker : GoodIn wsL_law (wsV RL 66 RX7 yX7_walker wsX7_walker) := goodIn_app (goodIn_of _ (by decide +kernel)) ggL_law_X7_walker
set_option maxRecDepth 20000 in
theorem ggL_law_X8_walker : GoodIn wsL_law wsX8_walker := goodIn_r _ [613, 151, 152, 105, 614, 615, 616, 5, 617, 153, 154, 155, 525, 526, 527, 528, 529, 530, 531, 532, 533, 534, 535, 536, 414, 415, 416, 537, 538, 539, 540, 1070, 1071, 1072, 1073, 1074, 1075, 1076, 1077, 1078, 1079, 1080, 1081, 1082, 1083, 1084, 1085] (by decide +kernel) (by decide +kernel)
set_option maxRecDepth 20000 in
theorem gL_law_X8_walker : GoodIn wsL_law (wsV RL 69 RX8 yX8_walker wsX8_walker) := goodIn_app (goodIn_of _ (by decide +kernel)) ggL_law_X8_walker
set_option maxRecDepth 20000 in
theorem ggL_law_X7_ahead : GoodIn wsL_law wsX7_ahead := goodIn_r _ [621, 23, 118, 32, 603, 604, 605, 606, 607, 22, 608, 66, 461, 122, 2, 123, 622, 623, 624, 31, 625, 92, 93, 626, 363, 364, 365, 64, 65, 67, 68, 69, 70, 71, 72, 366, 210, 211, 212, 73, 74, 75, 76, 77, 78, 79, 627, 471, 472, 473, 474, 475, 476, 477, 478, 479, 480, 481, 482, 483, 484, 485, 486, 487, 488, 361, 489, 490, 491, 492, 493, 494, 495, 496, 497, 498, 499, 500, 501, 502, 503, 504, 505, 506, 468, 507, 337, 338, 339, 1062, 1063, 1064, 1065, 1066, 1067, 1068, 1069, 1096, 1097, 1098, 1099, 1100, 1101, 1102, 1103, 1104, 1105, 1106, 1107, 1108, 1109, 1110, 1111, 1115, 1116] (by decide +kernel) (by decide +kernel)
set_option maxRecDepth 20000 in
theorem gL_law_X7_ahead : GoodIn wsL_law (wsV RL 70 RX7 yX7_ahead wsX7_ahead) := goodIn_app (goodIn_of _ (by decide +kernel)) ggL_law_X7_ahead
set_option maxRecDepth 20000 in
theorem ggL_law_X8_ahead : GoodIn wsL_law wsX8_ahead := goodIn_r _ [631, 632, 152, 105, 614, 615, 616, 5, 617, 153, 154, 155, 633, 634, 635, 636, 422, 423, 424, 425, 517, 518, 519, 520, 521, 522, 523, 524, 525, 526, 527, 528, 529, 530, 531, 532, 533, 534, 535, 536, 414, 415, 416, 537, 538, 539, 540, 1070, 1071, 1072, 1073, 1074, 1075, 1076, 1077, 1078, 1079, 1080, 1081, 1082, 1083, 1084, 1085] (by decide +kernel) (by decide +kernel)
set_option maxRecDepth 20000 in
theorem gL_law_X8_ahead : GoodIn wsL_law (wsV RL 73 RX8 yX8_ahead wsX8_ahead) := goodIn_app (goodIn_of _ (by decide +kernel)) ggL_law_X8_ahead
