set_option maxRecDepth 20000 in
theorem ggL_law_X7_restore : GoodIn wsL_law wsX7_restore := goodIn_r _ [925, 118, 28, 440, 23, 27, 461, 122, 2, 123, 917, 363, 364, 22, 365, 64, 65, 66, 67, 68, 69, 70, 71, 72, 366, 210, 211, 212, 73, 74, 75, 76, 77, 78, 79, 367, 368, 369, 26, 370, 86, 1062, 1063, 1064, 1065, 1066, 1067, 1068, 1069, 1096, 1097, 1098, 1099, 1100, 1101, 1102, 1103, 1104, 1105, 1106, 1107, 1108, 1109, 1110, 1111, 1112, 1113, 1114] (by decide +kernel) (by decide +kernel)
set_option maxRecDepth 20000 in
theorem gL_law_X7_restore : GoodIn wsL_law (wsV RL 136 RX7 yX7_restore wsX7_restore) := goodIn_app (goodIn_of _ (by decide +kernel)) ggL_law_X7_restore
set_option maxRecDepth 20000 in
theorem ggL_law_X8_restore : GoodIn wsL_law wsX8_restore := goodIn_r _ [929, 152, 105, 450, 377, 153, 154, 5, 155, 422, 423, 424, 425, 1070, 1071, 1072, 1073, 1074, 1075, 1076, 1077, 1078, 1079, 1080, 1081, 1082, 1083, 1084, 1085] (by decide +kernel) (by decide +kernel)
set_option maxRecDepth 20000 in
theorem gL_law_X8_restore : GoodIn wsL_law (wsV RL 139 RX8 yX8_restore wsX8_restore) := goodIn_app (goodIn_of _ (by decide +kernel)) ggL_law_X8_restore
set_option maxRecDepth 20000 in
theorem ggL_law_X7_kind : GoodIn wsL_law wsX7_kind := goodIn_r _ [933, 23, 118, 934, 605, 606, 607, 22, 608, 66, 1062, 1063, 1064, 1065, 1066, 1067, 1068, 1069, 1096, 1097, 1098, 1099, 1100, 1101, 1102, 1103, 1104, 1105, 1106, 1107, 1108, 1109, 1110, 1111] (by decide +kernel) (by decide +kernel)
set_option maxRecDepth 20000 in
theorem gL_law_X7_kind : GoodIn wsL_law (wsV RL 140 RX7 yX7_kind wsX7_kind) := goodIn_app (goodIn_of _ (by decide +kernel)) ggL_law_X7_kind
set_option maxRecDepth 20000 in
theorem ggL_law_X8_kind : GoodIn wsL_law wsX8_kind := goodIn_r _ [938, 105, 152, 614, 615, 616, 5, 617, 153, 154, 155, 1070, 1071, 1072, 1073, 1074, 1075, 1076, 1077, 1078, 1079, 1080, 1081, 1082, 1083, 1084, 1085] (by decide +kernel) (by decide +kernel)
set_option maxRecDepth 20000 in
theorem gL_law_X8_kind : GoodIn wsL_law (wsV RL 143 RX8 yX8_kind wsX8_kind) := goodIn_app (goodIn_of _ (by decide +kernel)) ggL_law_X8_kind
set_option maxRecDepth 20000 in
theorem ggL_law_X7_as : GoodIn wsL_law wsX7_as := goodIn_r _ [942, 23, 118, 934, 605, 606, 607, 22, 608, 66, 461, 122, 2, 123, 943, 944, 945, 946, 947, 948, 949, 950, 127, 128, 129, 130, 37, 131, 142, 143, 144, 145, 1062, 1063, 1064, 1065, 1066, 1067, 1068, 1069, 1096, 1097, 1098, 1099, 1100, 1101, 1102, 1103, 1104, 1105, 1106, 1107, 1108, 1109, 1110, 1111] (by decide +kernel) (by decide +kernel)
set_option maxRecDepth 20000 in
theorem gL_law_X7_as : GoodIn wsL_law (wsV RL 144 RX7 yX7_as wsX7_as) := goodIn_app (goodIn_of _ (by decide +kernel)) ggL_law_X7_as
set_option maxRecDepth 20000 in
theorem ggL_law_X8_as : GoodIn wsL_law wsX8_as := goodIn_r _ [954, 598, 152, 105, 614, 615, 616, 5, 617, 153, 154, 155, 955, 956, 957, 162, 163, 164, 165, 160, 156, 157, 158, 159, 161, 1070, 1071, 1072, 1073, 1074, 1075, 1076, 1077, 1078, 1079, 1080, 1081, 1082, 1083, 1084, 1085] (by decide +kernel) (by decide +kernel)
set_option maxRecDepth 20000 in
theorem gL_law_X8_as : GoodIn wsL_law (wsV RL 147 RX8 yX8_as wsX8_as) := goodIn_app (goodIn_of _ (by decide +kernel)) ggL_law_X8_as
set_option maxRecDepth 20000 in
theorem ggL_law_X7_ask : GoodIn wsL_law wsX7_ask := goodIn_r _ [961, 23, 118, 36, 605, 606, 607, 22, 608, 66, 461, 122, 2, 123, 962, 963, 964, 35, 965, 99, 966, 967, 968, 969, 100, 970, 971, 972, 973, 974, 975, 976, 948, 945, 949, 950, 977, 978, 979, 980, 981, 982, 983, 984, 985, 986, 98, 1062, 1063, 1064, 1065, 1066, 1067, 1068, 1069, 1096, 1097, 1098, 1099, 1100, 1101, 1102, 1103, 1104, 1105, 1106, 1107, 1108, 1109, 1110, 1111, 1117, 1118, 1119] (by decide +kernel) (by decide +kernel)
set_option maxRecDepth 20000 in
theorem gL_law_X7_ask : GoodIn wsL_law (wsV RL 148 RX7 yX7_ask wsX7_ask) := goodIn_app (goodIn_of _ (by decide +kernel)) ggL_law_X7_ask
set_option maxRecDepth 20000 in
theorem ggL_law_X8_ask : GoodIn wsL_law wsX8_ask := goodIn_r _ [990, 152, 991, 614, 615, 616, 5, 617, 105, 153, 154, 155, 992, 993, 994, 995, 996, 997, 998, 999, 1000, 1001, 1002, 1003, 112, 1004, 1005, 1006, 1007, 1008, 1009, 1010, 1011, 1012, 1013, 1014, 1015, 1016, 1017, 1018, 1019, 1020, 1021, 1022, 1023, 1024, 1025, 1026, 1027, 1070, 1071, 1072, 1073, 1074, 1075, 1076, 1077, 1078, 1079, 1080, 1081, 1082, 1083, 1084, 1085] (by decide +kernel) (by decide +kernel)
set_option maxRecDepth 20000 in
theorem gL_law_X8_ask : GoodIn wsL_law (wsV RL 151 RX8 yX8_ask wsX8_ask) := goodIn_app (goodIn_of _ (by decide +kernel)) ggL_law_X8_ask
set_option maxRecDepth 20000 in
theorem ggL_law_X7_trace : GoodIn wsL_law wsX7_trace := goodIn_r _ [1031, 36, 1032, 726, 1033, 1062, 1063, 1064, 1065, 1066, 1067, 1068, 1069, 1117, 1118, 1119] (by decide +kernel) (by decide +kernel)
set_option maxRecDepth 20000 in
theorem gL_law_X7_trace : GoodIn wsL_law (wsV RL 152 RX7 yX7_trace wsX7_trace) := goodIn_app (goodIn_of _ (by decide +kernel)) ggL_law_X7_trace
set_option maxRecDepth 20000 in
theorem ggL_law_X8_trace : GoodIn wsL_law wsX8_trace := goodIn_r _ [1037, 991, 112, 421, 153, 154, 5, 155, 1070, 1071, 1072, 1073, 1074, 1075, 1076, 1077, 1078, 1079, 1080, 1081, 1082, 1083, 1084, 1085] (by decide +kernel) (by decide +kernel)
set_option maxRecDepth 20000 in
theorem gL_law_X8_trace : GoodIn wsL_law (wsV RL 155 RX8 yX8_trace wsX8_trace) := goodIn_app (goodIn_of _ (by decide +kernel)) ggL_law_X8_trace
set_option maxRecDepth 20000 in
theorem ggL_law_X7_count : GoodIn wsL_law wsX7_count := goodIn_r _ [1041, 15, 23, 256, 1042, 1043, 455, 456, 641, 27, 439, 19, 1044, 118, 1045, 1046, 1047, 14, 1048, 174, 175, 176, 177, 43, 1062, 1063, 1064, 1065, 1066, 1067, 1068, 1069, 1096, 1097, 1098, 1099, 1100, 1101, 1102, 1103, 1104, 1105, 1106, 1107, 1108, 1109, 1110, 1111, 1112, 1113, 1114, 1089, 1090, 1091, 1092, 1093, 1094, 1095, 1086, 1087, 1088] (by decide +kernel) (by decide +kernel)
set_option maxRecDepth 20000 in
theorem gL_law_X7_count : GoodIn wsL_law (wsV RL 156 RX7 yX7_count wsX7_count) := goodIn_app (goodIn_of _ (by decide +kernel)) ggL_law_X7_count
set_option maxRecDepth 20000 in
theorem ggL_law_X8_count : GoodIn wsL_law wsX8_count := goodIn_r _ [1052, 1053, 152, 106, 105, 377, 248, 153, 154, 5, 155, 1070, 1071, 1072, 1073, 1074, 1075, 1076, 1077, 1078, 1079, 1080, 1081, 1082, 1083, 1084, 1085] (by decide +kernel) (by decide +kernel)
set_option maxRecDepth 20000 in
theorem gL_law_X8_count : GoodIn wsL_law (wsV RL 159 RX8 yX8_count wsX8_count) := goodIn_app (goodIn_of _ (by decide +kernel)) ggL_law_X8_count
set_option maxRecDepth 20000 in
theorem ggL_law_X7_status : GoodIn wsL_law wsX7_status := goodIn_r _ [1057, 37, 1062, 1063, 1064, 1065, 1066, 1067, 1068, 1069] (by decide +kernel) (by decide +kernel)
set_option maxRecDepth 20000 in
theorem gL_law_X7_status : GoodIn wsL_law (wsV RL 160 RX7 yX7_status wsX7_status) := goodIn_app (goodIn_of _ (by decide +kernel)) ggL_law_X7_status
set_option maxRecDepth 20000 in
theorem ggL_law_X8_status : GoodIn wsL_law wsX8_status := goodIn_r _ [1061, 160, 1070, 1071, 1072, 1073, 1074, 1075, 1076, 1077, 1078, 1079, 1080, 1081, 1082, 1083, 1084, 1085] (by decide +kernel) (by decide +kernel)
set_option maxRecDepth 20000 in
theorem gL_law_X8_status : GoodIn wsL_law (wsV RL 163 RX8 yX8_status wsX8_status) := goodIn_app (goodIn_of _ (by decide +kernel)) ggL_law_X8_status
