set_option maxRecDepth 20000 in
theorem gX8_ask_X8_in : GoodIn wsX8_ask (va_wsS RX8 42 yX8_in wsX8_in) := goodIn_app (goodIn_of _ (by decide +kernel)) ggX8_ask_X8_in
theorem dX8_ask_0 : decode cX8_ask 0 = .ok (.aload_n 0, 1) := by decide +kernel
theorem dX8_ask_1 : decode cX8_ask 1 = .ok (.iload_n 1, 1) := by decide +kernel
theorem dX8_ask_2 : decode cX8_ask 2 = .ok (.invokevirtual 157, 3) := by decide +kernel
theorem dX8_ask_5 : decode cX8_ask 5 = .ok (.ifCond .eq 13, 3) := by decide +kernel
theorem dX8_ask_18 : decode cX8_ask 18 = .ok (.ldc 48, 2) := by decide +kernel
theorem dX8_ask_20 : decode cX8_ask 20 = .ok (.ireturn, 1) := by decide +kernel
set_option maxRecDepth 20000 in
theorem ggX8_trace_X8_in : GoodIn wsX8_trace wsX8_in := goodIn_r _ [7] (by decide +kernel) (by decide +kernel)
set_option maxRecDepth 20000 in
theorem gX8_trace_X8_in : GoodIn wsX8_trace (va_wsS RX8 42 yX8_in wsX8_in) := goodIn_app (goodIn_of _ (by decide +kernel)) ggX8_trace_X8_in
theorem dX8_trace_0 : decode cX8_trace 0 = .ok (.iload_n 1, 1) := by decide +kernel
theorem dX8_trace_1 : decode cX8_trace 1 = .ok (.i2l, 1) := by decide +kernel
theorem dX8_trace_2 : decode cX8_trace 2 = .ok (.lconst 0, 1) := by decide +kernel
theorem dX8_trace_3 : decode cX8_trace 3 = .ok (.aload_n 0, 1) := by decide +kernel
theorem dX8_trace_4 : decode cX8_trace 4 = .ok (.getfield 208, 3) := by decide +kernel
theorem dX8_trace_7 : decode cX8_trace 7 = .ok (.iconst 1, 1) := by decide +kernel
theorem dX8_trace_8 : decode cX8_trace 8 = .ok (.isub, 1) := by decide +kernel
theorem dX8_trace_9 : decode cX8_trace 9 = .ok (.i2l, 1) := by decide +kernel
theorem dX8_trace_10 : decode cX8_trace 10 = .ok (.invokestatic 42, 3) := by decide +kernel
theorem dX8_trace_13 : decode cX8_trace 13 = .ok (.ifCond .eq 12, 3) := by decide +kernel
theorem dX8_trace_25 : decode cX8_trace 25 = .ok (.ldc 99, 2) := by decide +kernel
theorem dX8_trace_27 : decode cX8_trace 27 = .ok (.ireturn, 1) := by decide +kernel
set_option maxRecDepth 20000 in
theorem ggX8_count_X8_in : GoodIn wsX8_count wsX8_in := goodIn_r _ [10] (by decide +kernel) (by decide +kernel)
set_option maxRecDepth 20000 in
theorem gX8_count_X8_in : GoodIn wsX8_count (va_wsS RX8 42 yX8_in wsX8_in) := goodIn_app (goodIn_of _ (by decide +kernel)) ggX8_count_X8_in
theorem dX8_count_0 : decode cX8_count 0 = .ok (.iload_n 1, 1) := by decide +kernel
theorem dX8_count_1 : decode cX8_count 1 = .ok (.i2l, 1) := by decide +kernel
theorem dX8_count_2 : decode cX8_count 2 = .ok (.lconst 0, 1) := by decide +kernel
theorem dX8_count_3 : decode cX8_count 3 = .ok (.ldc2_w 238, 3) := by decide +kernel
theorem dX8_count_6 : decode cX8_count 6 = .ok (.invokestatic 42, 3) := by decide +kernel
theorem dX8_count_9 : decode cX8_count 9 = .ok (.ifCond .ne 6, 3) := by decide +kernel
theorem dX8_count_12 : decode cX8_count 12 = .ok (.ldc 48, 2) := by decide +kernel
theorem dX8_count_14 : decode cX8_count 14 = .ok (.ireturn, 1) := by decide +kernel
theorem dX8_count_15 : decode cX8_count 15 = .ok (.iconst 0, 1) := by decide +kernel
theorem dX8_count_16 : decode cX8_count 16 = .ok (.istore_n 2, 1) := by decide +kernel
theorem dX8_count_17 : decode cX8_count 17 = .ok (.iload_n 1, 1) := by decide +kernel
theorem dX8_count_18 : decode cX8_count 18 = .ok (.tableswitch 129 0 7 #[46, 79, 86, 93, 100, 108, 116, 124], 46) := by decide +kernel
theorem dX8_count_64 : decode cX8_count 64 = .ok (.iconst 0, 1) := by decide +kernel
theorem dX8_count_65 : decode cX8_count 65 = .ok (.istore_n 3, 1) := by decide +kernel
theorem dX8_count_66 : decode cX8_count 66 = .ok (.iload_n 3, 1) := by decide +kernel
theorem dX8_count_67 : decode cX8_count 67 = .ok (.bipush 8, 2) := by decide +kernel
theorem dX8_count_69 : decode cX8_count 69 = .ok (.if_icmp .ge 26, 3) := by decide +kernel
theorem dX8_count_72 : decode cX8_count 72 = .ok (.iload_n 2, 1) := by decide +kernel
theorem dX8_count_73 : decode cX8_count 73 = .ok (.aload_n 0, 1) := by decide +kernel
theorem dX8_count_74 : decode cX8_count 74 = .ok (.getfield 13, 3) := by decide +kernel
theorem dX8_count_77 : decode cX8_count 77 = .ok (.iload_n 3, 1) := by decide +kernel
theorem dX8_count_78 : decode cX8_count 78 = .ok (.iaload, 1) := by decide +kernel
theorem dX8_count_79 : decode cX8_count 79 = .ok (.ifCond .ge 7, 3) := by decide +kernel
theorem dX8_count_82 : decode cX8_count 82 = .ok (.iconst 0, 1) := by decide +kernel
theorem dX8_count_83 : decode cX8_count 83 = .ok (.goto 4, 3) := by decide +kernel
theorem dX8_count_87 : decode cX8_count 87 = .ok (.iadd, 1) := by decide +kernel
theorem dX8_count_88 : decode cX8_count 88 = .ok (.istore_n 2, 1) := by decide +kernel
theorem dX8_count_89 : decode cX8_count 89 = .ok (.iinc 3 1, 3) := by decide +kernel
theorem dX8_count_92 : decode cX8_count 92 = .ok (.goto (-26), 3) := by decide +kernel
theorem dX8_count_95 : decode cX8_count 95 = .ok (.iload_n 2, 1) := by decide +kernel
theorem dX8_count_96 : decode cX8_count 96 = .ok (.ireturn, 1) := by decide +kernel
theorem dX8_count_97 : decode cX8_count 97 = .ok (.aload_n 0, 1) := by decide +kernel
theorem dX8_count_98 : decode cX8_count 98 = .ok (.getfield 7, 3) := by decide +kernel
theorem dX8_count_101 : decode cX8_count 101 = .ok (.iconst 1, 1) := by decide +kernel
theorem dX8_count_102 : decode cX8_count 102 = .ok (.iaload, 1) := by decide +kernel
theorem dX8_count_103 : decode cX8_count 103 = .ok (.ireturn, 1) := by decide +kernel
theorem dX8_count_104 : decode cX8_count 104 = .ok (.aload_n 0, 1) := by decide +kernel
theorem dX8_count_105 : decode cX8_count 105 = .ok (.getfield 7, 3) := by decide +kernel
theorem dX8_count_108 : decode cX8_count 108 = .ok (.iconst 3, 1) := by decide +kernel
theorem dX8_count_109 : decode cX8_count 109 = .ok (.iaload, 1) := by decide +kernel
theorem dX8_count_110 : decode cX8_count 110 = .ok (.ireturn, 1) := by decide +kernel
theorem dX8_count_111 : decode cX8_count 111 = .ok (.aload_n 0, 1) := by decide +kernel
theorem dX8_count_112 : decode cX8_count 112 = .ok (.getfield 7, 3) := by decide +kernel
theorem dX8_count_115 : decode cX8_count 115 = .ok (.iconst 2, 1) := by decide +kernel
theorem dX8_count_116 : decode cX8_count 116 = .ok (.iaload, 1) := by decide +kernel
theorem dX8_count_117 : decode cX8_count 117 = .ok (.ireturn, 1) := by decide +kernel
theorem dX8_count_118 : decode cX8_count 118 = .ok (.aload_n 0, 1) := by decide +kernel
theorem dX8_count_119 : decode cX8_count 119 = .ok (.getfield 7, 3) := by decide +kernel
theorem dX8_count_122 : decode cX8_count 122 = .ok (.bipush 54, 2) := by decide +kernel
theorem dX8_count_124 : decode cX8_count 124 = .ok (.iaload, 1) := by decide +kernel
theorem dX8_count_125 : decode cX8_count 125 = .ok (.ireturn, 1) := by decide +kernel
theorem dX8_count_126 : decode cX8_count 126 = .ok (.aload_n 0, 1) := by decide +kernel
theorem dX8_count_127 : decode cX8_count 127 = .ok (.getfield 7, 3) := by decide +kernel
theorem dX8_count_130 : decode cX8_count 130 = .ok (.bipush 55, 2) := by decide +kernel
theorem dX8_count_132 : decode cX8_count 132 = .ok (.iaload, 1) := by decide +kernel
theorem dX8_count_133 : decode cX8_count 133 = .ok (.ireturn, 1) := by decide +kernel
theorem dX8_count_134 : decode cX8_count 134 = .ok (.aload_n 0, 1) := by decide +kernel
theorem dX8_count_135 : decode cX8_count 135 = .ok (.getfield 7, 3) := by decide +kernel
theorem dX8_count_138 : decode cX8_count 138 = .ok (.bipush 56, 2) := by decide +kernel
theorem dX8_count_140 : decode cX8_count 140 = .ok (.iaload, 1) := by decide +kernel
theorem dX8_count_141 : decode cX8_count 141 = .ok (.ireturn, 1) := by decide +kernel
theorem dX8_count_142 : decode cX8_count 142 = .ok (.aload_n 0, 1) := by decide +kernel
theorem dX8_count_143 : decode cX8_count 143 = .ok (.getfield 118, 3) := by decide +kernel
theorem dX8_count_146 : decode cX8_count 146 = .ok (.ireturn, 1) := by decide +kernel
theorem dX8_count_147 : decode cX8_count 147 = .ok (.aload_n 0, 1) := by decide +kernel
theorem dX8_count_148 : decode cX8_count 148 = .ok (.getfield 58, 3) := by decide +kernel
theorem dX8_count_151 : decode cX8_count 151 = .ok (.ireturn, 1) := by decide +kernel
theorem dX8_status_0 : decode cX8_status 0 = .ok (.aload_n 0, 1) := by decide +kernel
theorem dX8_status_1 : decode cX8_status 1 = .ok (.getfield 35, 3) := by decide +kernel
theorem dX8_status_4 : decode cX8_status 4 = .ok (.ireturn, 1) := by decide +kernel
theorem dJ7_rangeCheck_23922_0 : decode cJ7_rangeCheck_23922 0 = .ok (.iload_n 1, 1) := by decide +kernel
theorem dJ7_rangeCheck_23922_1 : decode cJ7_rangeCheck_23922 1 = .ok (.iload_n 2, 1) := by decide +kernel
theorem dJ7_rangeCheck_23922_2 : decode cJ7_rangeCheck_23922 2 = .ok (.if_icmp .le 44, 3) := by decide +kernel
theorem dJ7_rangeCheck_23922_46 : decode cJ7_rangeCheck_23922 46 = .ok (.iload_n 1, 1) := by decide +kernel
theorem dJ7_rangeCheck_23922_47 : decode cJ7_rangeCheck_23922 47 = .ok (.ifCond .ge 12, 3) := by decide +kernel
theorem dJ7_rangeCheck_23922_59 : decode cJ7_rangeCheck_23922 59 = .ok (.iload_n 2, 1) := by decide +kernel
theorem dJ7_rangeCheck_23922_60 : decode cJ7_rangeCheck_23922 60 = .ok (.iload_n 0, 1) := by decide +kernel
theorem dJ7_rangeCheck_23922_61 : decode cJ7_rangeCheck_23922 61 = .ok (.if_icmp .le 12, 3) := by decide +kernel
theorem dJ7_rangeCheck_23922_73 : decode cJ7_rangeCheck_23922 73 = .ok (.return_, 1) := by decide +kernel
theorem dJ7_fill_53178_0 : decode cJ7_fill_53178 0 = .ok (.iconst 0, 1) := by decide +kernel
theorem dJ7_fill_53178_1 : decode cJ7_fill_53178 1 = .ok (.istore_n 2, 1) := by decide +kernel
theorem dJ7_fill_53178_2 : decode cJ7_fill_53178 2 = .ok (.aload_n 0, 1) := by decide +kernel
theorem dJ7_fill_53178_3 : decode cJ7_fill_53178 3 = .ok (.arraylength, 1) := by decide +kernel
theorem dJ7_fill_53178_4 : decode cJ7_fill_53178 4 = .ok (.istore_n 3, 1) := by decide +kernel
theorem dJ7_fill_53178_5 : decode cJ7_fill_53178 5 = .ok (.iload_n 2, 1) := by decide +kernel
theorem dJ7_fill_53178_6 : decode cJ7_fill_53178 6 = .ok (.iload_n 3, 1) := by decide +kernel
theorem dJ7_fill_53178_7 : decode cJ7_fill_53178 7 = .ok (.if_icmp .ge 13, 3) := by decide +kernel
theorem dJ7_fill_53178_10 : decode cJ7_fill_53178 10 = .ok (.aload_n 0, 1) := by decide +kernel
theorem dJ7_fill_53178_11 : decode cJ7_fill_53178 11 = .ok (.iload_n 2, 1) := by decide +kernel
theorem dJ7_fill_53178_12 : decode cJ7_fill_53178 12 = .ok (.iload_n 1, 1) := by decide +kernel
theorem dJ7_fill_53178_13 : decode cJ7_fill_53178 13 = .ok (.iastore, 1) := by decide +kernel
theorem dJ7_fill_53178_14 : decode cJ7_fill_53178 14 = .ok (.iinc 2 1, 3) := by decide +kernel
theorem dJ7_fill_53178_17 : decode cJ7_fill_53178 17 = .ok (.goto (-12), 3) := by decide +kernel
theorem dJ7_fill_53178_20 : decode cJ7_fill_53178 20 = .ok (.return_, 1) := by decide +kernel
set_option maxRecDepth 20000 in
theorem ggJ7_fill_fda19_J7_rangeCheck_23922 : GoodIn wsJ7_fill_fda19 wsJ7_rangeCheck_23922 := goodIn_r _ [4] (by decide +kernel) (by decide +kernel)
set_option maxRecDepth 20000 in
theorem gJ7_fill_fda19_J7_rangeCheck_23922 : GoodIn wsJ7_fill_fda19 (va_wsS RJ7 13 yJ7_rangeCheck_23922 wsJ7_rangeCheck_23922) := goodIn_app (goodIn_of _ (by decide +kernel)) ggJ7_fill_fda19_J7_rangeCheck_23922
theorem dJ7_fill_fda19_0 : decode cJ7_fill_fda19 0 = .ok (.aload_n 0, 1) := by decide +kernel
theorem dJ7_fill_fda19_1 : decode cJ7_fill_fda19 1 = .ok (.arraylength, 1) := by decide +kernel
theorem dJ7_fill_fda19_2 : decode cJ7_fill_fda19 2 = .ok (.iload_n 1, 1) := by decide +kernel
theorem dJ7_fill_fda19_3 : decode cJ7_fill_fda19 3 = .ok (.iload_n 2, 1) := by decide +kernel
theorem dJ7_fill_fda19_4 : decode cJ7_fill_fda19 4 = .ok (.invokestatic 13, 3) := by decide +kernel
theorem dJ7_fill_fda19_7 : decode cJ7_fill_fda19 7 = .ok (.iload_n 1, 1) := by decide +kernel
theorem dJ7_fill_fda19_8 : decode cJ7_fill_fda19 8 = .ok (.istore 4, 2) := by decide +kernel
theorem dJ7_fill_fda19_10 : decode cJ7_fill_fda19 10 = .ok (.iload 4, 2) := by decide +kernel
theorem dJ7_fill_fda19_12 : decode cJ7_fill_fda19 12 = .ok (.iload_n 2, 1) := by decide +kernel
theorem dJ7_fill_fda19_13 : decode cJ7_fill_fda19 13 = .ok (.if_icmp .ge 14, 3) := by decide +kernel
theorem dJ7_fill_fda19_16 : decode cJ7_fill_fda19 16 = .ok (.aload_n 0, 1) := by decide +kernel
theorem dJ7_fill_fda19_17 : decode cJ7_fill_fda19 17 = .ok (.iload 4, 2) := by decide +kernel
theorem dJ7_fill_fda19_19 : decode cJ7_fill_fda19 19 = .ok (.iload_n 3, 1) := by decide +kernel
theorem dJ7_fill_fda19_20 : decode cJ7_fill_fda19 20 = .ok (.iastore, 1) := by decide +kernel
theorem dJ7_fill_fda19_21 : decode cJ7_fill_fda19 21 = .ok (.iinc 4 1, 3) := by decide +kernel
theorem dJ7_fill_fda19_24 : decode cJ7_fill_fda19 24 = .ok (.goto (-14), 3) := by decide +kernel
theorem dJ7_fill_fda19_27 : decode cJ7_fill_fda19 27 = .ok (.return_, 1) := by decide +kernel
