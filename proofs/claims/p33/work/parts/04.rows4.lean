theorem dX7_ask_1 : decode cX7_ask 1 = .ok (.getfield 26, 3) := by decide +kernel
theorem dX7_ask_4 : decode cX7_ask 4 = .ok (.iload_n 1, 1) := by decide +kernel
theorem dX7_ask_5 : decode cX7_ask 5 = .ok (.invokevirtual 187, 3) := by decide +kernel
theorem dX7_ask_8 : decode cX7_ask 8 = .ok (.ifCond .eq 12, 3) := by decide +kernel
theorem dX7_ask_11 : decode cX7_ask 11 = .ok (.iconst 0, 1) := by decide +kernel
theorem dX7_ask_12 : decode cX7_ask 12 = .ok (.iload_n 2, 1) := by decide +kernel
theorem dX7_ask_13 : decode cX7_ask 13 = .ok (.iconst 1, 1) := by decide +kernel
theorem dX7_ask_14 : decode cX7_ask 14 = .ok (.invokestatic 137, 3) := by decide +kernel
theorem dX7_ask_17 : decode cX7_ask 17 = .ok (.ifCond .ne 6, 3) := by decide +kernel
theorem dX7_ask_20 : decode cX7_ask 20 = .ok (.ldc 68, 2) := by decide +kernel
theorem dX7_ask_22 : decode cX7_ask 22 = .ok (.ireturn, 1) := by decide +kernel
theorem dX7_ask_23 : decode cX7_ask 23 = .ok (.aload_n 0, 1) := by decide +kernel
theorem dX7_ask_24 : decode cX7_ask 24 = .ok (.getfield 53, 3) := by decide +kernel
theorem dX7_ask_27 : decode cX7_ask 27 = .ok (.iload_n 1, 1) := by decide +kernel
theorem dX7_ask_28 : decode cX7_ask 28 = .ok (.iload_n 2, 1) := by decide +kernel
theorem dX7_ask_29 : decode cX7_ask 29 = .ok (.invokevirtual 284, 3) := by decide +kernel
theorem dX7_ask_32 : decode cX7_ask 32 = .ok (.ireturn, 1) := by decide +kernel
theorem dX7_trace_0 : decode cX7_trace 0 = .ok (.iload_n 1, 1) := by decide +kernel
theorem dX7_trace_1 : decode cX7_trace 1 = .ok (.ifCond .lt 14, 3) := by decide +kernel
theorem dX7_trace_4 : decode cX7_trace 4 = .ok (.iload_n 1, 1) := by decide +kernel
theorem dX7_trace_5 : decode cX7_trace 5 = .ok (.aload_n 0, 1) := by decide +kernel
theorem dX7_trace_6 : decode cX7_trace 6 = .ok (.getfield 53, 3) := by decide +kernel
theorem dX7_trace_9 : decode cX7_trace 9 = .ok (.getfield 287, 3) := by decide +kernel
theorem dX7_trace_12 : decode cX7_trace 12 = .ok (.if_icmp .lt 6, 3) := by decide +kernel
theorem dX7_trace_15 : decode cX7_trace 15 = .ok (.ldc 223, 2) := by decide +kernel
theorem dX7_trace_17 : decode cX7_trace 17 = .ok (.ireturn, 1) := by decide +kernel
theorem dX7_trace_18 : decode cX7_trace 18 = .ok (.aload_n 0, 1) := by decide +kernel
theorem dX7_trace_19 : decode cX7_trace 19 = .ok (.getfield 53, 3) := by decide +kernel
theorem dX7_trace_22 : decode cX7_trace 22 = .ok (.getfield 290, 3) := by decide +kernel
theorem dX7_trace_25 : decode cX7_trace 25 = .ok (.iload_n 1, 1) := by decide +kernel
theorem dX7_trace_26 : decode cX7_trace 26 = .ok (.iaload, 1) := by decide +kernel
theorem dX7_trace_27 : decode cX7_trace 27 = .ok (.ireturn, 1) := by decide +kernel
theorem lq_X7_count_0 {w : Cond} (h : w ∈ ([.fieldLink RX7 10 "WinterWalk" "rows" "LWinterWalk$Rows;", .fieldLink RX7 26 "WinterWalk" "now" "LWinterWalk$Land;", .fieldLink RX7 120 "WinterWalk$Land" "villages" "I", .fieldLink RX7 296 "WinterWalk$Land" "roadsTold" "I", .fieldLink RX7 299 "WinterWalk$Land" "walkers" "I", .fieldLink RX7 141 "WinterWalk$Land" "day" "I", .fieldLink RX7 150 "WinterWalk$Land" "gain" "I", .fieldLink RX7 203 "WinterWalk$Land" "paid" "I", .fieldLink RX7 33 "WinterWalk" "acts" "LWinterWalk$Acts;", .fieldLink RX7 126 "WinterWalk$Acts" "kept" "I", .fieldLink RX7 19 "WinterWalk" "tape" "LWinterWalk$Tape;", .fieldLink RX7 302 "WinterWalk$Tape" "length" "I", .constant RX7 68 (-1000001), .methodLink RX7 293 yX5_howMany, .instanceMethod yX5_howMany, .selects RX5 yX5_howMany yX5_howMany, .initialized RX5, .code yX5_howMany cX5_howMany 3 (some .int), .methodLink RX5 31 yX5_isMissing, .instanceMethod yX5_isMissing, .selects RX5 yX5_isMissing yX5_isMissing, .code yX5_isMissing cX5_isMissing 2 (some .boolean), .fieldLink RX5 11 "WinterWalk$Rows" "lanes" "[I"] : List Cond)) : w ∈ wsX7_count := List.mem_cons_of_mem _ (List.mem_append_left _ (List.mem_append_left _ (List.mem_append_left _ (List.mem_append_left _ (List.mem_append_left _ (h))))))
theorem lt_X7_count_X7 : ∀ w ∈ wsX70, w ∈ wsX7_count := fun _ h => List.mem_cons_of_mem _ (List.mem_append_left _ (List.mem_append_left _ (List.mem_append_left _ (List.mem_append_left _ (List.mem_append_right _ (h))))))
theorem lt_X7_count_X4 : ∀ w ∈ wsX40, w ∈ wsX7_count := fun _ h => List.mem_cons_of_mem _ (List.mem_append_left _ (List.mem_append_left _ (List.mem_append_left _ (List.mem_append_right _ (h)))))
theorem lt_X7_count_X0 : ∀ w ∈ wsX00, w ∈ wsX7_count := fun _ h => List.mem_cons_of_mem _ (List.mem_append_left _ (List.mem_append_left _ (List.mem_append_right _ (h))))
theorem lt_X7_count_X6 : ∀ w ∈ wsX60, w ∈ wsX7_count := fun _ h => List.mem_cons_of_mem _ (List.mem_append_left _ (List.mem_append_right _ (h)))
theorem lt_X7_count_X5 : ∀ w ∈ wsX50, w ∈ wsX7_count := fun _ h => List.mem_cons_of_mem _ (List.mem_append_right _ (h))
set_option maxRecDepth 20000 in
theorem ggX7_count_X5_howMany : GoodIn wsX7_count wsX5_howMany := goodIn_sub (List.forall_mem_cons.mpr ⟨lq_X7_count_0 (List.mem_of_getElem? (i := 17) rfl), (List.forall_mem_append.mpr ⟨(show ∀ w ∈ ([.methodLink RX5 31 yX5_isMissing, .instanceMethod yX5_isMissing, .selects RX5 yX5_isMissing yX5_isMissing, .initialized RX5, .code yX5_isMissing cX5_isMissing 2 (some .boolean), .fieldLink RX5 11 "WinterWalk$Rows" "lanes" "[I"] : List Cond), w ∈ wsX7_count from List.forall_mem_cons.mpr ⟨lq_X7_count_0 (List.mem_of_getElem? (i := 18) rfl), List.forall_mem_cons.mpr ⟨lq_X7_count_0 (List.mem_of_getElem? (i := 19) rfl), List.forall_mem_cons.mpr ⟨lq_X7_count_0 (List.mem_of_getElem? (i := 20) rfl), List.forall_mem_cons.mpr ⟨lq_X7_count_0 (List.mem_of_getElem? (i := 16) rfl), List.forall_mem_cons.mpr ⟨lq_X7_count_0 (List.mem_of_getElem? (i := 21) rfl), List.forall_mem_cons.mpr ⟨lq_X7_count_0 (List.mem_of_getElem? (i := 22) rfl), fun _ h => absurd h List.not_mem_nil⟩⟩⟩⟩⟩⟩), lt_X7_count_X5⟩)⟩) (by decide +kernel)
set_option maxRecDepth 20000 in
theorem gX7_count_X5_howMany : GoodIn wsX7_count (wsV RX7 293 RX5 yX5_howMany wsX5_howMany) := goodIn_app (goodIn_sub (List.forall_mem_cons.mpr ⟨lq_X7_count_0 (List.mem_of_getElem? (i := 13) rfl), List.forall_mem_cons.mpr ⟨lq_X7_count_0 (List.mem_of_getElem? (i := 14) rfl), List.forall_mem_cons.mpr ⟨lq_X7_count_0 (List.mem_of_getElem? (i := 15) rfl), List.forall_mem_cons.mpr ⟨lq_X7_count_0 (List.mem_of_getElem? (i := 16) rfl), fun _ h => absurd h List.not_mem_nil⟩⟩⟩⟩) (by decide +kernel)) ggX7_count_X5_howMany
theorem dX7_count_0 : decode cX7_count 0 = .ok (.iload_n 1, 1) := by decide +kernel
theorem dX7_count_1 : decode cX7_count 1 = .ok (.tableswitch 123 0 8 #[51, 59, 67, 75, 83, 91, 99, 107, 115], 51) := by decide +kernel
theorem dX7_count_52 : decode cX7_count 52 = .ok (.aload_n 0, 1) := by decide +kernel
theorem dX7_count_53 : decode cX7_count 53 = .ok (.getfield 10, 3) := by decide +kernel
theorem dX7_count_56 : decode cX7_count 56 = .ok (.invokevirtual 293, 3) := by decide +kernel
theorem dX7_count_59 : decode cX7_count 59 = .ok (.ireturn, 1) := by decide +kernel
theorem dX7_count_60 : decode cX7_count 60 = .ok (.aload_n 0, 1) := by decide +kernel
theorem dX7_count_61 : decode cX7_count 61 = .ok (.getfield 26, 3) := by decide +kernel
theorem dX7_count_64 : decode cX7_count 64 = .ok (.getfield 120, 3) := by decide +kernel
theorem dX7_count_67 : decode cX7_count 67 = .ok (.ireturn, 1) := by decide +kernel
theorem dX7_count_68 : decode cX7_count 68 = .ok (.aload_n 0, 1) := by decide +kernel
theorem dX7_count_69 : decode cX7_count 69 = .ok (.getfield 26, 3) := by decide +kernel
theorem dX7_count_72 : decode cX7_count 72 = .ok (.getfield 296, 3) := by decide +kernel
theorem dX7_count_75 : decode cX7_count 75 = .ok (.ireturn, 1) := by decide +kernel
theorem dX7_count_76 : decode cX7_count 76 = .ok (.aload_n 0, 1) := by decide +kernel
theorem dX7_count_77 : decode cX7_count 77 = .ok (.getfield 26, 3) := by decide +kernel
theorem dX7_count_80 : decode cX7_count 80 = .ok (.getfield 299, 3) := by decide +kernel
theorem dX7_count_83 : decode cX7_count 83 = .ok (.ireturn, 1) := by decide +kernel
theorem dX7_count_84 : decode cX7_count 84 = .ok (.aload_n 0, 1) := by decide +kernel
theorem dX7_count_85 : decode cX7_count 85 = .ok (.getfield 26, 3) := by decide +kernel
theorem dX7_count_88 : decode cX7_count 88 = .ok (.getfield 141, 3) := by decide +kernel
theorem dX7_count_91 : decode cX7_count 91 = .ok (.ireturn, 1) := by decide +kernel
theorem dX7_count_92 : decode cX7_count 92 = .ok (.aload_n 0, 1) := by decide +kernel
theorem dX7_count_93 : decode cX7_count 93 = .ok (.getfield 26, 3) := by decide +kernel
theorem dX7_count_96 : decode cX7_count 96 = .ok (.getfield 150, 3) := by decide +kernel
theorem dX7_count_99 : decode cX7_count 99 = .ok (.ireturn, 1) := by decide +kernel
theorem dX7_count_100 : decode cX7_count 100 = .ok (.aload_n 0, 1) := by decide +kernel
theorem dX7_count_101 : decode cX7_count 101 = .ok (.getfield 26, 3) := by decide +kernel
theorem dX7_count_104 : decode cX7_count 104 = .ok (.getfield 203, 3) := by decide +kernel
theorem dX7_count_107 : decode cX7_count 107 = .ok (.ireturn, 1) := by decide +kernel
theorem dX7_count_108 : decode cX7_count 108 = .ok (.aload_n 0, 1) := by decide +kernel
theorem dX7_count_109 : decode cX7_count 109 = .ok (.getfield 33, 3) := by decide +kernel
theorem dX7_count_112 : decode cX7_count 112 = .ok (.getfield 126, 3) := by decide +kernel
theorem dX7_count_115 : decode cX7_count 115 = .ok (.ireturn, 1) := by decide +kernel
theorem dX7_count_116 : decode cX7_count 116 = .ok (.aload_n 0, 1) := by decide +kernel
theorem dX7_count_117 : decode cX7_count 117 = .ok (.getfield 19, 3) := by decide +kernel
theorem dX7_count_120 : decode cX7_count 120 = .ok (.getfield 302, 3) := by decide +kernel
theorem dX7_count_123 : decode cX7_count 123 = .ok (.ireturn, 1) := by decide +kernel
theorem dX7_count_124 : decode cX7_count 124 = .ok (.ldc 68, 2) := by decide +kernel
theorem dX7_count_126 : decode cX7_count 126 = .ok (.ireturn, 1) := by decide +kernel
theorem dX7_status_0 : decode cX7_status 0 = .ok (.aload_n 0, 1) := by decide +kernel
theorem dX7_status_1 : decode cX7_status 1 = .ok (.getfield 57, 3) := by decide +kernel
theorem dX7_status_4 : decode cX7_status 4 = .ok (.ireturn, 1) := by decide +kernel
theorem dX7_found_0 : decode cX7_found 0 = .ok (.aload_n 0, 1) := by decide +kernel
theorem dX7_found_1 : decode cX7_found 1 = .ok (.iload_n 1, 1) := by decide +kernel
theorem dX7_found_2 : decode cX7_found 2 = .ok (.putfield 57, 3) := by decide +kernel
theorem dX7_found_5 : decode cX7_found 5 = .ok (.ldc_w 305, 3) := by decide +kernel
theorem dX7_found_8 : decode cX7_found 8 = .ok (.iload_n 1, 1) := by decide +kernel
theorem dX7_found_9 : decode cX7_found 9 = .ok (.isub, 1) := by decide +kernel
theorem dX7_found_10 : decode cX7_found 10 = .ok (.ireturn, 1) := by decide +kernel
theorem dX7_foundNothing_0 : decode cX7_foundNothing 0 = .ok (.aload_n 0, 1) := by decide +kernel
theorem dX7_foundNothing_1 : decode cX7_foundNothing 1 = .ok (.iconst 0, 1) := by decide +kernel
theorem dX7_foundNothing_2 : decode cX7_foundNothing 2 = .ok (.putfield 57, 3) := by decide +kernel
theorem dX7_foundNothing_5 : decode cX7_foundNothing 5 = .ok (.iload_n 1, 1) := by decide +kernel
theorem dX7_foundNothing_6 : decode cX7_foundNothing 6 = .ok (.ireturn, 1) := by decide +kernel
theorem dX7_isFrom_0 : decode cX7_isFrom 0 = .ok (.iload_n 0, 1) := by decide +kernel
theorem dX7_isFrom_1 : decode cX7_isFrom 1 = .ok (.iload_n 1, 1) := by decide +kernel
theorem dX7_isFrom_2 : decode cX7_isFrom 2 = .ok (.if_icmp .gt 12, 3) := by decide +kernel
theorem dX7_isFrom_5 : decode cX7_isFrom 5 = .ok (.iload_n 1, 1) := by decide +kernel
theorem dX7_isFrom_6 : decode cX7_isFrom 6 = .ok (.iload_n 2, 1) := by decide +kernel
theorem dX7_isFrom_7 : decode cX7_isFrom 7 = .ok (.if_icmp .gt 7, 3) := by decide +kernel
theorem dX7_isFrom_10 : decode cX7_isFrom 10 = .ok (.iconst 1, 1) := by decide +kernel
theorem dX7_isFrom_11 : decode cX7_isFrom 11 = .ok (.goto 4, 3) := by decide +kernel
theorem dX7_isFrom_14 : decode cX7_isFrom 14 = .ok (.iconst 0, 1) := by decide +kernel
theorem dX7_isFrom_15 : decode cX7_isFrom 15 = .ok (.ireturn, 1) := by decide +kernel
theorem dX8_init_0 : decode cX8_init 0 = .ok (.aload_n 0, 1) := by decide +kernel
theorem dX8_init_1 : decode cX8_init 1 = .ok (.invokespecial 1, 3) := by decide +kernel
theorem dX8_init_4 : decode cX8_init 4 = .ok (.aload_n 0, 1) := by decide +kernel
theorem dX8_init_5 : decode cX8_init 5 = .ok (.sipush 1653, 3) := by decide +kernel
theorem dX8_init_8 : decode cX8_init 8 = .ok (.newarray .int, 2) := by decide +kernel
theorem dX8_init_10 : decode cX8_init 10 = .ok (.putfield 7, 3) := by decide +kernel
theorem dX8_init_13 : decode cX8_init 13 = .ok (.aload_n 0, 1) := by decide +kernel
theorem dX8_init_14 : decode cX8_init 14 = .ok (.bipush 8, 2) := by decide +kernel
theorem dX8_init_16 : decode cX8_init 16 = .ok (.newarray .int, 2) := by decide +kernel
theorem dX8_init_18 : decode cX8_init 18 = .ok (.putfield 13, 3) := by decide +kernel
theorem dX8_init_21 : decode cX8_init 21 = .ok (.aload_n 0, 1) := by decide +kernel
theorem dX8_init_22 : decode cX8_init 22 = .ok (.bipush 8, 2) := by decide +kernel
theorem dX8_init_24 : decode cX8_init 24 = .ok (.newarray .int, 2) := by decide +kernel
theorem dX8_init_26 : decode cX8_init 26 = .ok (.putfield 16, 3) := by decide +kernel
theorem dX8_init_29 : decode cX8_init 29 = .ok (.aload_n 0, 1) := by decide +kernel
theorem dX8_init_30 : decode cX8_init 30 = .ok (.sipush 320, 3) := by decide +kernel
theorem dX8_init_33 : decode cX8_init 33 = .ok (.newarray .int, 2) := by decide +kernel
theorem dX8_init_35 : decode cX8_init 35 = .ok (.putfield 19, 3) := by decide +kernel
theorem dX8_init_38 : decode cX8_init 38 = .ok (.aload_n 0, 1) := by decide +kernel
theorem dX8_init_39 : decode cX8_init 39 = .ok (.bipush 40, 2) := by decide +kernel
theorem dX8_init_41 : decode cX8_init 41 = .ok (.newarray .int, 2) := by decide +kernel
theorem dX8_init_43 : decode cX8_init 43 = .ok (.putfield 22, 3) := by decide +kernel
theorem dX8_init_46 : decode cX8_init 46 = .ok (.aload_n 0, 1) := by decide +kernel
theorem dX8_init_47 : decode cX8_init 47 = .ok (.bipush 120, 2) := by decide +kernel
theorem dX8_init_49 : decode cX8_init 49 = .ok (.newarray .byte, 2) := by decide +kernel
theorem dX8_init_51 : decode cX8_init 51 = .ok (.putfield 25, 3) := by decide +kernel
theorem dX8_init_54 : decode cX8_init 54 = .ok (.aload_n 0, 1) := by decide +kernel
theorem dX8_init_55 : decode cX8_init 55 = .ok (.bipush 16, 2) := by decide +kernel
theorem dX8_init_57 : decode cX8_init 57 = .ok (.newarray .int, 2) := by decide +kernel
theorem dX8_init_59 : decode cX8_init 59 = .ok (.putfield 29, 3) := by decide +kernel
theorem dX8_init_62 : decode cX8_init 62 = .ok (.aload_n 0, 1) := by decide +kernel
theorem dX8_init_63 : decode cX8_init 63 = .ok (.bipush 8, 2) := by decide +kernel
theorem dX8_init_65 : decode cX8_init 65 = .ok (.newarray .int, 2) := by decide +kernel
theorem dX8_init_67 : decode cX8_init 67 = .ok (.putfield 32, 3) := by decide +kernel
theorem dX8_init_70 : decode cX8_init 70 = .ok (.iconst 0, 1) := by decide +kernel
theorem dX8_init_71 : decode cX8_init 71 = .ok (.istore_n 1, 1) := by decide +kernel
theorem dX8_init_72 : decode cX8_init 72 = .ok (.iload_n 1, 1) := by decide +kernel
theorem dX8_init_73 : decode cX8_init 73 = .ok (.bipush 8, 2) := by decide +kernel
theorem dX8_init_75 : decode cX8_init 75 = .ok (.if_icmp .ge 16, 3) := by decide +kernel
theorem dX8_init_78 : decode cX8_init 78 = .ok (.aload_n 0, 1) := by decide +kernel
theorem dX8_init_79 : decode cX8_init 79 = .ok (.getfield 13, 3) := by decide +kernel
theorem dX8_init_82 : decode cX8_init 82 = .ok (.iload_n 1, 1) := by decide +kernel
theorem dX8_init_83 : decode cX8_init 83 = .ok (.iconst (-1), 1) := by decide +kernel
theorem dX8_init_84 : decode cX8_init 84 = .ok (.iastore, 1) := by decide +kernel
theorem dX8_init_85 : decode cX8_init 85 = .ok (.iinc 1 1, 3) := by decide +kernel
theorem dX8_init_88 : decode cX8_init 88 = .ok (.goto (-16), 3) := by decide +kernel
theorem dX8_init_91 : decode cX8_init 91 = .ok (.return_, 1) := by decide +kernel
theorem dX8_in_0 : decode cX8_in 0 = .ok (.lload_n 0, 1) := by decide +kernel
theorem dX8_in_1 : decode cX8_in 1 = .ok (.lload_n 2, 1) := by decide +kernel
theorem dX8_in_2 : decode cX8_in 2 = .ok (.lcmp, 1) := by decide +kernel
theorem dX8_in_3 : decode cX8_in 3 = .ok (.ifCond .lt 14, 3) := by decide +kernel
theorem dX8_in_6 : decode cX8_in 6 = .ok (.lload_n 0, 1) := by decide +kernel
theorem dX8_in_7 : decode cX8_in 7 = .ok (.lload 4, 2) := by decide +kernel
theorem dX8_in_9 : decode cX8_in 9 = .ok (.lcmp, 1) := by decide +kernel
theorem dX8_in_10 : decode cX8_in 10 = .ok (.ifCond .gt 7, 3) := by decide +kernel
theorem dX8_in_13 : decode cX8_in 13 = .ok (.iconst 1, 1) := by decide +kernel
theorem dX8_in_14 : decode cX8_in 14 = .ok (.goto 4, 3) := by decide +kernel
theorem dX8_in_17 : decode cX8_in 17 = .ok (.iconst 0, 1) := by decide +kernel
theorem dX8_in_18 : decode cX8_in 18 = .ok (.ireturn, 1) := by decide +kernel
theorem dX8_has_0 : decode cX8_has 0 = .ok (.iload_n 0, 1) := by decide +kernel
theorem dX8_has_1 : decode cX8_has 1 = .ok (.iload_n 1, 1) := by decide +kernel
theorem dX8_has_2 : decode cX8_has 2 = .ok (.ishr, 1) := by decide +kernel
theorem dX8_has_3 : decode cX8_has 3 = .ok (.iconst 1, 1) := by decide +kernel
theorem dX8_has_4 : decode cX8_has 4 = .ok (.iand, 1) := by decide +kernel
theorem dX8_has_5 : decode cX8_has 5 = .ok (.iconst 1, 1) := by decide +kernel
theorem dX8_has_6 : decode cX8_has 6 = .ok (.if_icmp .ne 7, 3) := by decide +kernel
theorem dX8_has_9 : decode cX8_has 9 = .ok (.iconst 1, 1) := by decide +kernel
theorem dX8_has_10 : decode cX8_has 10 = .ok (.goto 4, 3) := by decide +kernel
theorem dX8_has_13 : decode cX8_has 13 = .ok (.iconst 0, 1) := by decide +kernel
theorem dX8_has_14 : decode cX8_has 14 = .ok (.ireturn, 1) := by decide +kernel
theorem dX8_finds_0 : decode cX8_finds 0 = .ok (.aload_n 0, 1) := by decide +kernel
theorem dX8_finds_1 : decode cX8_finds 1 = .ok (.iload_n 1, 1) := by decide +kernel
theorem dX8_finds_2 : decode cX8_finds 2 = .ok (.putfield 35, 3) := by decide +kernel
theorem dX8_finds_5 : decode cX8_finds 5 = .ok (.ldc 39, 2) := by decide +kernel
theorem dX8_finds_7 : decode cX8_finds 7 = .ok (.iload_n 1, 1) := by decide +kernel
theorem dX8_finds_8 : decode cX8_finds 8 = .ok (.isub, 1) := by decide +kernel
theorem dX8_finds_9 : decode cX8_finds 9 = .ok (.ireturn, 1) := by decide +kernel
theorem dX8_told_0 : decode cX8_told 0 = .ok (.aload_n 0, 1) := by decide +kernel
theorem dX8_told_1 : decode cX8_told 1 = .ok (.iconst 0, 1) := by decide +kernel
theorem dX8_told_2 : decode cX8_told 2 = .ok (.putfield 35, 3) := by decide +kernel
theorem dX8_told_5 : decode cX8_told 5 = .ok (.iload_n 1, 1) := by decide +kernel
theorem dX8_told_6 : decode cX8_told 6 = .ok (.ireturn, 1) := by decide +kernel
theorem lq_X8_row_0 {w : Cond} (h : w ∈ ([.constantLong RX8 40 (7), .constantLong RX8 46 (2), .constant RX8 48 (-1000001), .fieldLink RX8 13 "WinterWalkModel" "size" "[I", .fieldLink RX8 16 "WinterWalkModel" "lane" "[I", .fieldLink RX8 19 "WinterWalkModel" "items" "[I", .methodLink RX8 42 yX8_in, .static yX8_in, .initialized RX8, .code yX8_in cX8_in 6 (some .boolean), .methodLink RX8 49 yX8_finds, .instanceMethod yX8_finds, .selects RX8 yX8_finds yX8_finds, .code yX8_finds cX8_finds 2 (some .int), .fieldLink RX8 35 "WinterWalkModel" "status" "I", .constant RX8 39 (-1000010), .methodLink RX8 53 yX8_told, .instanceMethod yX8_told, .selects RX8 yX8_told yX8_told, .code yX8_told cX8_told 2 (some .int)] : List Cond)) : w ∈ wsX8_row := List.mem_cons_of_mem _ (List.mem_append_left _ (h))
theorem lt_X8_row_X8 : ∀ w ∈ wsX80, w ∈ wsX8_row := fun _ h => List.mem_cons_of_mem _ (List.mem_append_right _ (h))
set_option maxRecDepth 20000 in
theorem ggX8_row_X8_in : GoodIn wsX8_row wsX8_in := goodIn_sub (List.forall_mem_cons.mpr ⟨lq_X8_row_0 (List.mem_of_getElem? (i := 9) rfl), (show ∀ w ∈ ([] : List Cond), w ∈ wsX8_row from fun _ h => absurd h List.not_mem_nil)⟩) (by decide +kernel)
set_option maxRecDepth 20000 in
theorem gX8_row_X8_in : GoodIn wsX8_row (va_wsS RX8 42 yX8_in wsX8_in) := goodIn_app (goodIn_sub (List.forall_mem_cons.mpr ⟨lq_X8_row_0 (List.mem_of_getElem? (i := 6) rfl), List.forall_mem_cons.mpr ⟨lq_X8_row_0 (List.mem_of_getElem? (i := 7) rfl), List.forall_mem_cons.mpr ⟨lq_X8_row_0 (List.mem_of_getElem? (i := 8) rfl), fun _ h => absurd h List.not_mem_nil⟩⟩⟩) (by decide +kernel)) ggX8_row_X8_in
set_option maxRecDepth 20000 in
theorem ggX8_row_X8_finds : GoodIn wsX8_row wsX8_finds := goodIn_sub (List.forall_mem_cons.mpr ⟨lq_X8_row_0 (List.mem_of_getElem? (i := 13) rfl), (List.forall_mem_append.mpr ⟨(show ∀ w ∈ ([.fieldLink RX8 35 "WinterWalkModel" "status" "I", .constant RX8 39 (-1000010)] : List Cond), w ∈ wsX8_row from List.forall_mem_cons.mpr ⟨lq_X8_row_0 (List.mem_of_getElem? (i := 14) rfl), List.forall_mem_cons.mpr ⟨lq_X8_row_0 (List.mem_of_getElem? (i := 15) rfl), fun _ h => absurd h List.not_mem_nil⟩⟩), lt_X8_row_X8⟩)⟩) (by decide +kernel)
set_option maxRecDepth 20000 in
theorem gX8_row_X8_finds : GoodIn wsX8_row (wsV RX8 49 RX8 yX8_finds wsX8_finds) := goodIn_app (goodIn_sub (List.forall_mem_cons.mpr ⟨lq_X8_row_0 (List.mem_of_getElem? (i := 10) rfl), List.forall_mem_cons.mpr ⟨lq_X8_row_0 (List.mem_of_getElem? (i := 11) rfl), List.forall_mem_cons.mpr ⟨lq_X8_row_0 (List.mem_of_getElem? (i := 12) rfl), List.forall_mem_cons.mpr ⟨lq_X8_row_0 (List.mem_of_getElem? (i := 8) rfl), fun _ h => absurd h List.not_mem_nil⟩⟩⟩⟩) (by decide +kernel)) ggX8_row_X8_finds
set_option maxRecDepth 20000 in
theorem ggX8_row_X8_told : GoodIn wsX8_row wsX8_told := goodIn_sub (List.forall_mem_cons.mpr ⟨lq_X8_row_0 (List.mem_of_getElem? (i := 19) rfl), (List.forall_mem_append.mpr ⟨(show ∀ w ∈ ([.fieldLink RX8 35 "WinterWalkModel" "status" "I"] : List Cond), w ∈ wsX8_row from List.forall_mem_cons.mpr ⟨lq_X8_row_0 (List.mem_of_getElem? (i := 14) rfl), fun _ h => absurd h List.not_mem_nil⟩), lt_X8_row_X8⟩)⟩) (by decide +kernel)
set_option maxRecDepth 20000 in
theorem gX8_row_X8_told : GoodIn wsX8_row (wsV RX8 53 RX8 yX8_told wsX8_told) := goodIn_app (goodIn_sub (List.forall_mem_cons.mpr ⟨lq_X8_row_0 (List.mem_of_getElem? (i := 16) rfl), List.forall_mem_cons.mpr ⟨lq_X8_row_0 (List.mem_of_getElem? (i := 17) rfl), List.forall_mem_cons.mpr ⟨lq_X8_row_0 (List.mem_of_getElem? (i := 18) rfl), List.forall_mem_cons.mpr ⟨lq_X8_row_0 (List.mem_of_getElem? (i := 8) rfl), fun _ h => absurd h List.not_mem_nil⟩⟩⟩⟩) (by decide +kernel)) ggX8_row_X8_told
theorem dX8_row_0 : decode cX8_row 0 = .ok (.iload_n 1, 1) := by decide +kernel
theorem dX8_row_1 : decode cX8_row 1 = .ok (.i2l, 1) := by decide +kernel
theorem dX8_row_2 : decode cX8_row 2 = .ok (.lconst 0, 1) := by decide +kernel
theorem dX8_row_3 : decode cX8_row 3 = .ok (.ldc2_w 40, 3) := by decide +kernel
theorem dX8_row_6 : decode cX8_row 6 = .ok (.invokestatic 42, 3) := by decide +kernel
theorem dX8_row_9 : decode cX8_row 9 = .ok (.ifCond .eq 21, 3) := by decide +kernel
theorem dX8_row_12 : decode cX8_row 12 = .ok (.iload_n 2, 1) := by decide +kernel
theorem dX8_row_13 : decode cX8_row 13 = .ok (.i2l, 1) := by decide +kernel
theorem dX8_row_14 : decode cX8_row 14 = .ok (.lconst 0, 1) := by decide +kernel
theorem dX8_row_15 : decode cX8_row 15 = .ok (.ldc2_w 46, 3) := by decide +kernel
theorem dX8_row_18 : decode cX8_row 18 = .ok (.invokestatic 42, 3) := by decide +kernel
theorem dX8_row_21 : decode cX8_row 21 = .ok (.ifCond .eq 9, 3) := by decide +kernel
theorem dX8_row_24 : decode cX8_row 24 = .ok (.iload_n 3, 1) := by decide +kernel
theorem dX8_row_25 : decode cX8_row 25 = .ok (.bipush 40, 2) := by decide +kernel
theorem dX8_row_27 : decode cX8_row 27 = .ok (.if_icmp .le 6, 3) := by decide +kernel
theorem dX8_row_30 : decode cX8_row 30 = .ok (.ldc 48, 2) := by decide +kernel
theorem dX8_row_32 : decode cX8_row 32 = .ok (.ireturn, 1) := by decide +kernel
theorem dX8_row_33 : decode cX8_row 33 = .ok (.iload_n 3, 1) := by decide +kernel
theorem dX8_row_34 : decode cX8_row 34 = .ok (.ifCond .ge 9, 3) := by decide +kernel
theorem dX8_row_37 : decode cX8_row 37 = .ok (.aload_n 0, 1) := by decide +kernel
theorem dX8_row_38 : decode cX8_row 38 = .ok (.iconst 4, 1) := by decide +kernel
theorem dX8_row_39 : decode cX8_row 39 = .ok (.invokevirtual 49, 3) := by decide +kernel
theorem dX8_row_42 : decode cX8_row 42 = .ok (.ireturn, 1) := by decide +kernel
theorem dX8_row_43 : decode cX8_row 43 = .ok (.aload_n 0, 1) := by decide +kernel
theorem dX8_row_44 : decode cX8_row 44 = .ok (.getfield 13, 3) := by decide +kernel
theorem dX8_row_47 : decode cX8_row 47 = .ok (.iload_n 1, 1) := by decide +kernel
theorem dX8_row_48 : decode cX8_row 48 = .ok (.iload_n 3, 1) := by decide +kernel
theorem dX8_row_49 : decode cX8_row 49 = .ok (.iastore, 1) := by decide +kernel
theorem dX8_row_50 : decode cX8_row 50 = .ok (.aload_n 0, 1) := by decide +kernel
theorem dX8_row_51 : decode cX8_row 51 = .ok (.getfield 16, 3) := by decide +kernel
theorem dX8_row_54 : decode cX8_row 54 = .ok (.iload_n 1, 1) := by decide +kernel
theorem dX8_row_55 : decode cX8_row 55 = .ok (.iload_n 2, 1) := by decide +kernel
theorem dX8_row_56 : decode cX8_row 56 = .ok (.iastore, 1) := by decide +kernel
theorem dX8_row_57 : decode cX8_row 57 = .ok (.iconst 0, 1) := by decide +kernel
theorem dX8_row_58 : decode cX8_row 58 = .ok (.istore 4, 2) := by decide +kernel
theorem dX8_row_60 : decode cX8_row 60 = .ok (.iload 4, 2) := by decide +kernel
theorem dX8_row_62 : decode cX8_row 62 = .ok (.iload_n 3, 1) := by decide +kernel
theorem dX8_row_63 : decode cX8_row 63 = .ok (.if_icmp .ge 22, 3) := by decide +kernel
theorem dX8_row_66 : decode cX8_row 66 = .ok (.aload_n 0, 1) := by decide +kernel
theorem dX8_row_67 : decode cX8_row 67 = .ok (.getfield 19, 3) := by decide +kernel
theorem dX8_row_70 : decode cX8_row 70 = .ok (.bipush 40, 2) := by decide +kernel
theorem dX8_row_72 : decode cX8_row 72 = .ok (.iload_n 1, 1) := by decide +kernel
theorem dX8_row_73 : decode cX8_row 73 = .ok (.imul, 1) := by decide +kernel
theorem dX8_row_74 : decode cX8_row 74 = .ok (.iload 4, 2) := by decide +kernel
theorem dX8_row_76 : decode cX8_row 76 = .ok (.iadd, 1) := by decide +kernel
theorem dX8_row_77 : decode cX8_row 77 = .ok (.iconst 0, 1) := by decide +kernel
theorem dX8_row_78 : decode cX8_row 78 = .ok (.iastore, 1) := by decide +kernel
theorem dX8_row_79 : decode cX8_row 79 = .ok (.iinc 4 1, 3) := by decide +kernel
theorem dX8_row_82 : decode cX8_row 82 = .ok (.goto (-22), 3) := by decide +kernel
theorem dX8_row_85 : decode cX8_row 85 = .ok (.aload_n 0, 1) := by decide +kernel
theorem dX8_row_86 : decode cX8_row 86 = .ok (.iload_n 3, 1) := by decide +kernel
theorem dX8_row_87 : decode cX8_row 87 = .ok (.invokevirtual 53, 3) := by decide +kernel
theorem dX8_row_90 : decode cX8_row 90 = .ok (.ireturn, 1) := by decide +kernel
theorem lq_X8_set_0 {w : Cond} (h : w ∈ ([.constantLong RX8 40 (7), .constant RX8 48 (-1000001), .fieldLink RX8 13 "WinterWalkModel" "size" "[I", .fieldLink RX8 19 "WinterWalkModel" "items" "[I", .fieldLink RX8 16 "WinterWalkModel" "lane" "[I", .methodLink RX8 42 yX8_in, .static yX8_in, .initialized RX8, .code yX8_in cX8_in 6 (some .boolean), .methodLink RX8 49 yX8_finds, .instanceMethod yX8_finds, .selects RX8 yX8_finds yX8_finds, .code yX8_finds cX8_finds 2 (some .int), .fieldLink RX8 35 "WinterWalkModel" "status" "I", .constant RX8 39 (-1000010), .methodLink RX8 53 yX8_told, .instanceMethod yX8_told, .selects RX8 yX8_told yX8_told, .code yX8_told cX8_told 2 (some .int)] : List Cond)) : w ∈ wsX8_set := List.mem_cons_of_mem _ (List.mem_append_left _ (h))
theorem lt_X8_set_X8 : ∀ w ∈ wsX80, w ∈ wsX8_set := fun _ h => List.mem_cons_of_mem _ (List.mem_append_right _ (h))
set_option maxRecDepth 20000 in
theorem ggX8_set_X8_in : GoodIn wsX8_set wsX8_in := goodIn_sub (List.forall_mem_cons.mpr ⟨lq_X8_set_0 (List.mem_of_getElem? (i := 8) rfl), (show ∀ w ∈ ([] : List Cond), w ∈ wsX8_set from fun _ h => absurd h List.not_mem_nil)⟩) (by decide +kernel)
set_option maxRecDepth 20000 in
theorem gX8_set_X8_in : GoodIn wsX8_set (va_wsS RX8 42 yX8_in wsX8_in) := goodIn_app (goodIn_sub (List.forall_mem_cons.mpr ⟨lq_X8_set_0 (List.mem_of_getElem? (i := 5) rfl), List.forall_mem_cons.mpr ⟨lq_X8_set_0 (List.mem_of_getElem? (i := 6) rfl), List.forall_mem_cons.mpr ⟨lq_X8_set_0 (List.mem_of_getElem? (i := 7) rfl), fun _ h => absurd h List.not_mem_nil⟩⟩⟩) (by decide +kernel)) ggX8_set_X8_in
set_option maxRecDepth 20000 in
theorem ggX8_set_X8_finds : GoodIn wsX8_set wsX8_finds := goodIn_sub (List.forall_mem_cons.mpr ⟨lq_X8_set_0 (List.mem_of_getElem? (i := 12) rfl), (List.forall_mem_append.mpr ⟨(show ∀ w ∈ ([.fieldLink RX8 35 "WinterWalkModel" "status" "I", .constant RX8 39 (-1000010)] : List Cond), w ∈ wsX8_set from List.forall_mem_cons.mpr ⟨lq_X8_set_0 (List.mem_of_getElem? (i := 13) rfl), List.forall_mem_cons.mpr ⟨lq_X8_set_0 (List.mem_of_getElem? (i := 14) rfl), fun _ h => absurd h List.not_mem_nil⟩⟩), lt_X8_set_X8⟩)⟩) (by decide +kernel)
set_option maxRecDepth 20000 in
theorem gX8_set_X8_finds : GoodIn wsX8_set (wsV RX8 49 RX8 yX8_finds wsX8_finds) := goodIn_app (goodIn_sub (List.forall_mem_cons.mpr ⟨lq_X8_set_0 (List.mem_of_getElem? (i := 9) rfl), List.forall_mem_cons.mpr ⟨lq_X8_set_0 (List.mem_of_getElem? (i := 10) rfl), List.forall_mem_cons.mpr ⟨lq_X8_set_0 (List.mem_of_getElem? (i := 11) rfl), List.forall_mem_cons.mpr ⟨lq_X8_set_0 (List.mem_of_getElem? (i := 7) rfl), fun _ h => absurd h List.not_mem_nil⟩⟩⟩⟩) (by decide +kernel)) ggX8_set_X8_finds
set_option maxRecDepth 20000 in
theorem ggX8_set_X8_told : GoodIn wsX8_set wsX8_told := goodIn_sub (List.forall_mem_cons.mpr ⟨lq_X8_set_0 (List.mem_of_getElem? (i := 18) rfl), (List.forall_mem_append.mpr ⟨(show ∀ w ∈ ([.fieldLink RX8 35 "WinterWalkModel" "status" "I"] : List Cond), w ∈ wsX8_set from List.forall_mem_cons.mpr ⟨lq_X8_set_0 (List.mem_of_getElem? (i := 13) rfl), fun _ h => absurd h List.not_mem_nil⟩), lt_X8_set_X8⟩)⟩) (by decide +kernel)
set_option maxRecDepth 20000 in
theorem gX8_set_X8_told : GoodIn wsX8_set (wsV RX8 53 RX8 yX8_told wsX8_told) := goodIn_app (goodIn_sub (List.forall_mem_cons.mpr ⟨lq_X8_set_0 (List.mem_of_getElem? (i := 15) rfl), List.forall_mem_cons.mpr ⟨lq_X8_set_0 (List.mem_of_getElem? (i := 16) rfl), List.forall_mem_cons.mpr ⟨lq_X8_set_0 (List.mem_of_getElem? (i := 17) rfl), List.forall_mem_cons.mpr ⟨lq_X8_set_0 (List.mem_of_getElem? (i := 7) rfl), fun _ h => absurd h List.not_mem_nil⟩⟩⟩⟩) (by decide +kernel)) ggX8_set_X8_told
theorem dX8_set_0 : decode cX8_set 0 = .ok (.iload_n 1, 1) := by decide +kernel
theorem dX8_set_1 : decode cX8_set 1 = .ok (.i2l, 1) := by decide +kernel
theorem dX8_set_2 : decode cX8_set 2 = .ok (.lconst 0, 1) := by decide +kernel
theorem dX8_set_3 : decode cX8_set 3 = .ok (.ldc2_w 40, 3) := by decide +kernel
theorem dX8_set_6 : decode cX8_set 6 = .ok (.invokestatic 42, 3) := by decide +kernel
theorem dX8_set_9 : decode cX8_set 9 = .ok (.ifCond .ne 6, 3) := by decide +kernel
theorem dX8_set_12 : decode cX8_set 12 = .ok (.ldc 48, 2) := by decide +kernel
theorem dX8_set_14 : decode cX8_set 14 = .ok (.ireturn, 1) := by decide +kernel
theorem dX8_set_15 : decode cX8_set 15 = .ok (.aload_n 0, 1) := by decide +kernel
theorem dX8_set_16 : decode cX8_set 16 = .ok (.getfield 13, 3) := by decide +kernel
theorem dX8_set_19 : decode cX8_set 19 = .ok (.iload_n 1, 1) := by decide +kernel
theorem dX8_set_20 : decode cX8_set 20 = .ok (.iaload, 1) := by decide +kernel
theorem dX8_set_21 : decode cX8_set 21 = .ok (.ifCond .ge 9, 3) := by decide +kernel
theorem dX8_set_24 : decode cX8_set 24 = .ok (.aload_n 0, 1) := by decide +kernel
theorem dX8_set_25 : decode cX8_set 25 = .ok (.iconst 1, 1) := by decide +kernel
theorem dX8_set_26 : decode cX8_set 26 = .ok (.invokevirtual 49, 3) := by decide +kernel
theorem dX8_set_29 : decode cX8_set 29 = .ok (.ireturn, 1) := by decide +kernel
theorem dX8_set_30 : decode cX8_set 30 = .ok (.iload_n 2, 1) := by decide +kernel
theorem dX8_set_31 : decode cX8_set 31 = .ok (.i2l, 1) := by decide +kernel
theorem dX8_set_32 : decode cX8_set 32 = .ok (.lconst 0, 1) := by decide +kernel
theorem dX8_set_33 : decode cX8_set 33 = .ok (.aload_n 0, 1) := by decide +kernel
theorem dX8_set_34 : decode cX8_set 34 = .ok (.getfield 13, 3) := by decide +kernel
theorem dX8_set_37 : decode cX8_set 37 = .ok (.iload_n 1, 1) := by decide +kernel
theorem dX8_set_38 : decode cX8_set 38 = .ok (.iaload, 1) := by decide +kernel
theorem dX8_set_39 : decode cX8_set 39 = .ok (.iconst 1, 1) := by decide +kernel
theorem dX8_set_40 : decode cX8_set 40 = .ok (.isub, 1) := by decide +kernel
theorem dX8_set_41 : decode cX8_set 41 = .ok (.i2l, 1) := by decide +kernel
theorem dX8_set_42 : decode cX8_set 42 = .ok (.invokestatic 42, 3) := by decide +kernel
theorem dX8_set_45 : decode cX8_set 45 = .ok (.ifCond .ne 9, 3) := by decide +kernel
theorem dX8_set_48 : decode cX8_set 48 = .ok (.aload_n 0, 1) := by decide +kernel
theorem dX8_set_49 : decode cX8_set 49 = .ok (.iconst 2, 1) := by decide +kernel
theorem dX8_set_50 : decode cX8_set 50 = .ok (.invokevirtual 49, 3) := by decide +kernel
theorem dX8_set_53 : decode cX8_set 53 = .ok (.ireturn, 1) := by decide +kernel
theorem dX8_set_54 : decode cX8_set 54 = .ok (.aload_n 0, 1) := by decide +kernel
theorem dX8_set_55 : decode cX8_set 55 = .ok (.getfield 19, 3) := by decide +kernel
theorem dX8_set_58 : decode cX8_set 58 = .ok (.bipush 40, 2) := by decide +kernel
theorem dX8_set_60 : decode cX8_set 60 = .ok (.iload_n 1, 1) := by decide +kernel
theorem dX8_set_61 : decode cX8_set 61 = .ok (.imul, 1) := by decide +kernel
theorem dX8_set_62 : decode cX8_set 62 = .ok (.iload_n 2, 1) := by decide +kernel
theorem dX8_set_63 : decode cX8_set 63 = .ok (.iadd, 1) := by decide +kernel
theorem dX8_set_64 : decode cX8_set 64 = .ok (.aload_n 0, 1) := by decide +kernel
theorem dX8_set_65 : decode cX8_set 65 = .ok (.getfield 16, 3) := by decide +kernel
theorem dX8_set_68 : decode cX8_set 68 = .ok (.iload_n 1, 1) := by decide +kernel
theorem dX8_set_69 : decode cX8_set 69 = .ok (.iaload, 1) := by decide +kernel
theorem dX8_set_70 : decode cX8_set 70 = .ok (.ifCond .ne 8, 3) := by decide +kernel
theorem dX8_set_73 : decode cX8_set 73 = .ok (.iload_n 3, 1) := by decide +kernel
theorem dX8_set_74 : decode cX8_set 74 = .ok (.i2b, 1) := by decide +kernel
theorem dX8_set_75 : decode cX8_set 75 = .ok (.goto 19, 3) := by decide +kernel
theorem dX8_set_78 : decode cX8_set 78 = .ok (.aload_n 0, 1) := by decide +kernel
theorem dX8_set_79 : decode cX8_set 79 = .ok (.getfield 16, 3) := by decide +kernel
theorem dX8_set_82 : decode cX8_set 82 = .ok (.iload_n 1, 1) := by decide +kernel
theorem dX8_set_83 : decode cX8_set 83 = .ok (.iaload, 1) := by decide +kernel
theorem dX8_set_84 : decode cX8_set 84 = .ok (.iconst 1, 1) := by decide +kernel
theorem dX8_set_85 : decode cX8_set 85 = .ok (.if_icmp .ne 8, 3) := by decide +kernel
theorem dX8_set_88 : decode cX8_set 88 = .ok (.iload_n 3, 1) := by decide +kernel
theorem dX8_set_89 : decode cX8_set 89 = .ok (.i2s, 1) := by decide +kernel
theorem dX8_set_90 : decode cX8_set 90 = .ok (.goto 4, 3) := by decide +kernel
theorem dX8_set_93 : decode cX8_set 93 = .ok (.iload_n 3, 1) := by decide +kernel
theorem dX8_set_94 : decode cX8_set 94 = .ok (.iastore, 1) := by decide +kernel
theorem dX8_set_95 : decode cX8_set 95 = .ok (.aload_n 0, 1) := by decide +kernel
theorem dX8_set_96 : decode cX8_set 96 = .ok (.aload_n 0, 1) := by decide +kernel
theorem dX8_set_97 : decode cX8_set 97 = .ok (.getfield 19, 3) := by decide +kernel
theorem dX8_set_100 : decode cX8_set 100 = .ok (.bipush 40, 2) := by decide +kernel
theorem dX8_set_102 : decode cX8_set 102 = .ok (.iload_n 1, 1) := by decide +kernel
theorem dX8_set_103 : decode cX8_set 103 = .ok (.imul, 1) := by decide +kernel
theorem dX8_set_104 : decode cX8_set 104 = .ok (.iload_n 2, 1) := by decide +kernel
theorem dX8_set_105 : decode cX8_set 105 = .ok (.iadd, 1) := by decide +kernel
theorem dX8_set_106 : decode cX8_set 106 = .ok (.iaload, 1) := by decide +kernel
theorem dX8_set_107 : decode cX8_set 107 = .ok (.invokevirtual 53, 3) := by decide +kernel
theorem dX8_set_110 : decode cX8_set 110 = .ok (.ireturn, 1) := by decide +kernel
theorem lq_X8_copy_0 {w : Cond} (h : w ∈ ([.constantLong RX8 40 (7), .constant RX8 48 (-1000001), .fieldLink RX8 13 "WinterWalkModel" "size" "[I", .fieldLink RX8 16 "WinterWalkModel" "lane" "[I", .fieldLink RX8 22 "WinterWalkModel" "taken" "[I", .fieldLink RX8 19 "WinterWalkModel" "items" "[I", .methodLink RX8 42 yX8_in, .static yX8_in, .initialized RX8, .code yX8_in cX8_in 6 (some .boolean), .methodLink RX8 49 yX8_finds, .instanceMethod yX8_finds, .selects RX8 yX8_finds yX8_finds, .code yX8_finds cX8_finds 2 (some .int), .fieldLink RX8 35 "WinterWalkModel" "status" "I", .constant RX8 39 (-1000010), .methodLink RX8 53 yX8_told, .instanceMethod yX8_told, .selects RX8 yX8_told yX8_told, .code yX8_told cX8_told 2 (some .int)] : List Cond)) : w ∈ wsX8_copy := List.mem_cons_of_mem _ (List.mem_append_left _ (h))
theorem lt_X8_copy_X8 : ∀ w ∈ wsX80, w ∈ wsX8_copy := fun _ h => List.mem_cons_of_mem _ (List.mem_append_right _ (h))
set_option maxRecDepth 20000 in
theorem ggX8_copy_X8_in : GoodIn wsX8_copy wsX8_in := goodIn_sub (List.forall_mem_cons.mpr ⟨lq_X8_copy_0 (List.mem_of_getElem? (i := 9) rfl), (show ∀ w ∈ ([] : List Cond), w ∈ wsX8_copy from fun _ h => absurd h List.not_mem_nil)⟩) (by decide +kernel)
set_option maxRecDepth 20000 in
theorem gX8_copy_X8_in : GoodIn wsX8_copy (va_wsS RX8 42 yX8_in wsX8_in) := goodIn_app (goodIn_sub (List.forall_mem_cons.mpr ⟨lq_X8_copy_0 (List.mem_of_getElem? (i := 6) rfl), List.forall_mem_cons.mpr ⟨lq_X8_copy_0 (List.mem_of_getElem? (i := 7) rfl), List.forall_mem_cons.mpr ⟨lq_X8_copy_0 (List.mem_of_getElem? (i := 8) rfl), fun _ h => absurd h List.not_mem_nil⟩⟩⟩) (by decide +kernel)) ggX8_copy_X8_in
set_option maxRecDepth 20000 in
theorem ggX8_copy_X8_finds : GoodIn wsX8_copy wsX8_finds := goodIn_sub (List.forall_mem_cons.mpr ⟨lq_X8_copy_0 (List.mem_of_getElem? (i := 13) rfl), (List.forall_mem_append.mpr ⟨(show ∀ w ∈ ([.fieldLink RX8 35 "WinterWalkModel" "status" "I", .constant RX8 39 (-1000010)] : List Cond), w ∈ wsX8_copy from List.forall_mem_cons.mpr ⟨lq_X8_copy_0 (List.mem_of_getElem? (i := 14) rfl), List.forall_mem_cons.mpr ⟨lq_X8_copy_0 (List.mem_of_getElem? (i := 15) rfl), fun _ h => absurd h List.not_mem_nil⟩⟩), lt_X8_copy_X8⟩)⟩) (by decide +kernel)
set_option maxRecDepth 20000 in
theorem gX8_copy_X8_finds : GoodIn wsX8_copy (wsV RX8 49 RX8 yX8_finds wsX8_finds) := goodIn_app (goodIn_sub (List.forall_mem_cons.mpr ⟨lq_X8_copy_0 (List.mem_of_getElem? (i := 10) rfl), List.forall_mem_cons.mpr ⟨lq_X8_copy_0 (List.mem_of_getElem? (i := 11) rfl), List.forall_mem_cons.mpr ⟨lq_X8_copy_0 (List.mem_of_getElem? (i := 12) rfl), List.forall_mem_cons.mpr ⟨lq_X8_copy_0 (List.mem_of_getElem? (i := 8) rfl), fun _ h => absurd h List.not_mem_nil⟩⟩⟩⟩) (by decide +kernel)) ggX8_copy_X8_finds
set_option maxRecDepth 20000 in
theorem ggX8_copy_X8_told : GoodIn wsX8_copy wsX8_told := goodIn_sub (List.forall_mem_cons.mpr ⟨lq_X8_copy_0 (List.mem_of_getElem? (i := 19) rfl), (List.forall_mem_append.mpr ⟨(show ∀ w ∈ ([.fieldLink RX8 35 "WinterWalkModel" "status" "I"] : List Cond), w ∈ wsX8_copy from List.forall_mem_cons.mpr ⟨lq_X8_copy_0 (List.mem_of_getElem? (i := 14) rfl), fun _ h => absurd h List.not_mem_nil⟩), lt_X8_copy_X8⟩)⟩) (by decide +kernel)
set_option maxRecDepth 20000 in
theorem gX8_copy_X8_told : GoodIn wsX8_copy (wsV RX8 53 RX8 yX8_told wsX8_told) := goodIn_app (goodIn_sub (List.forall_mem_cons.mpr ⟨lq_X8_copy_0 (List.mem_of_getElem? (i := 16) rfl), List.forall_mem_cons.mpr ⟨lq_X8_copy_0 (List.mem_of_getElem? (i := 17) rfl), List.forall_mem_cons.mpr ⟨lq_X8_copy_0 (List.mem_of_getElem? (i := 18) rfl), List.forall_mem_cons.mpr ⟨lq_X8_copy_0 (List.mem_of_getElem? (i := 8) rfl), fun _ h => absurd h List.not_mem_nil⟩⟩⟩⟩) (by decide +kernel)) ggX8_copy_X8_told
theorem dX8_copy_0 : decode cX8_copy 0 = .ok (.iload_n 1, 1) := by decide +kernel
theorem dX8_copy_1 : decode cX8_copy 1 = .ok (.i2l, 1) := by decide +kernel
theorem dX8_copy_2 : decode cX8_copy 2 = .ok (.lconst 0, 1) := by decide +kernel
theorem dX8_copy_3 : decode cX8_copy 3 = .ok (.ldc2_w 40, 3) := by decide +kernel
theorem dX8_copy_6 : decode cX8_copy 6 = .ok (.invokestatic 42, 3) := by decide +kernel
theorem dX8_copy_9 : decode cX8_copy 9 = .ok (.ifCond .eq 15, 3) := by decide +kernel
theorem dX8_copy_12 : decode cX8_copy 12 = .ok (.iload_n 3, 1) := by decide +kernel
theorem dX8_copy_13 : decode cX8_copy 13 = .ok (.i2l, 1) := by decide +kernel
theorem dX8_copy_14 : decode cX8_copy 14 = .ok (.lconst 0, 1) := by decide +kernel
theorem dX8_copy_15 : decode cX8_copy 15 = .ok (.ldc2_w 40, 3) := by decide +kernel
theorem dX8_copy_18 : decode cX8_copy 18 = .ok (.invokestatic 42, 3) := by decide +kernel
theorem dX8_copy_21 : decode cX8_copy 21 = .ok (.ifCond .ne 6, 3) := by decide +kernel
theorem dX8_copy_24 : decode cX8_copy 24 = .ok (.ldc 48, 2) := by decide +kernel
theorem dX8_copy_26 : decode cX8_copy 26 = .ok (.ireturn, 1) := by decide +kernel
theorem dX8_copy_27 : decode cX8_copy 27 = .ok (.aload_n 0, 1) := by decide +kernel
theorem dX8_copy_28 : decode cX8_copy 28 = .ok (.getfield 13, 3) := by decide +kernel
theorem dX8_copy_31 : decode cX8_copy 31 = .ok (.iload_n 1, 1) := by decide +kernel
theorem dX8_copy_32 : decode cX8_copy 32 = .ok (.iaload, 1) := by decide +kernel
theorem dX8_copy_33 : decode cX8_copy 33 = .ok (.ifCond .lt 12, 3) := by decide +kernel
theorem dX8_copy_36 : decode cX8_copy 36 = .ok (.aload_n 0, 1) := by decide +kernel
theorem dX8_copy_37 : decode cX8_copy 37 = .ok (.getfield 13, 3) := by decide +kernel
theorem dX8_copy_40 : decode cX8_copy 40 = .ok (.iload_n 3, 1) := by decide +kernel
theorem dX8_copy_41 : decode cX8_copy 41 = .ok (.iaload, 1) := by decide +kernel
theorem dX8_copy_42 : decode cX8_copy 42 = .ok (.ifCond .ge 9, 3) := by decide +kernel
theorem dX8_copy_45 : decode cX8_copy 45 = .ok (.aload_n 0, 1) := by decide +kernel
theorem dX8_copy_46 : decode cX8_copy 46 = .ok (.iconst 1, 1) := by decide +kernel
theorem dX8_copy_47 : decode cX8_copy 47 = .ok (.invokevirtual 49, 3) := by decide +kernel
theorem dX8_copy_50 : decode cX8_copy 50 = .ok (.ireturn, 1) := by decide +kernel
theorem dX8_copy_51 : decode cX8_copy 51 = .ok (.aload_n 0, 1) := by decide +kernel
theorem dX8_copy_52 : decode cX8_copy 52 = .ok (.getfield 16, 3) := by decide +kernel
theorem dX8_copy_55 : decode cX8_copy 55 = .ok (.iload_n 1, 1) := by decide +kernel
theorem dX8_copy_56 : decode cX8_copy 56 = .ok (.iaload, 1) := by decide +kernel
theorem dX8_copy_57 : decode cX8_copy 57 = .ok (.aload_n 0, 1) := by decide +kernel
theorem dX8_copy_58 : decode cX8_copy 58 = .ok (.getfield 16, 3) := by decide +kernel
theorem dX8_copy_61 : decode cX8_copy 61 = .ok (.iload_n 3, 1) := by decide +kernel
theorem dX8_copy_62 : decode cX8_copy 62 = .ok (.iaload, 1) := by decide +kernel
theorem dX8_copy_63 : decode cX8_copy 63 = .ok (.if_icmp .eq 9, 3) := by decide +kernel
theorem dX8_copy_66 : decode cX8_copy 66 = .ok (.aload_n 0, 1) := by decide +kernel
theorem dX8_copy_67 : decode cX8_copy 67 = .ok (.iconst 5, 1) := by decide +kernel
theorem dX8_copy_68 : decode cX8_copy 68 = .ok (.invokevirtual 49, 3) := by decide +kernel
theorem dX8_copy_71 : decode cX8_copy 71 = .ok (.ireturn, 1) := by decide +kernel
theorem dX8_copy_72 : decode cX8_copy 72 = .ok (.iload_n 2, 1) := by decide +kernel
theorem dX8_copy_73 : decode cX8_copy 73 = .ok (.ifCond .lt 48, 3) := by decide +kernel
theorem dX8_copy_76 : decode cX8_copy 76 = .ok (.iload 4, 2) := by decide +kernel
theorem dX8_copy_78 : decode cX8_copy 78 = .ok (.ifCond .lt 43, 3) := by decide +kernel
theorem dX8_copy_81 : decode cX8_copy 81 = .ok (.iload 5, 2) := by decide +kernel
theorem dX8_copy_83 : decode cX8_copy 83 = .ok (.ifCond .lt 38, 3) := by decide +kernel
theorem dX8_copy_86 : decode cX8_copy 86 = .ok (.iload_n 2, 1) := by decide +kernel
theorem dX8_copy_87 : decode cX8_copy 87 = .ok (.i2l, 1) := by decide +kernel
theorem dX8_copy_88 : decode cX8_copy 88 = .ok (.iload 5, 2) := by decide +kernel
theorem dX8_copy_90 : decode cX8_copy 90 = .ok (.i2l, 1) := by decide +kernel
theorem dX8_copy_91 : decode cX8_copy 91 = .ok (.ladd, 1) := by decide +kernel
theorem dX8_copy_92 : decode cX8_copy 92 = .ok (.aload_n 0, 1) := by decide +kernel
theorem dX8_copy_93 : decode cX8_copy 93 = .ok (.getfield 13, 3) := by decide +kernel
theorem dX8_copy_96 : decode cX8_copy 96 = .ok (.iload_n 1, 1) := by decide +kernel
theorem dX8_copy_97 : decode cX8_copy 97 = .ok (.iaload, 1) := by decide +kernel
theorem dX8_copy_98 : decode cX8_copy 98 = .ok (.i2l, 1) := by decide +kernel
theorem dX8_copy_99 : decode cX8_copy 99 = .ok (.lcmp, 1) := by decide +kernel
theorem dX8_copy_100 : decode cX8_copy 100 = .ok (.ifCond .gt 21, 3) := by decide +kernel
theorem dX8_copy_103 : decode cX8_copy 103 = .ok (.iload 4, 2) := by decide +kernel
theorem dX8_copy_105 : decode cX8_copy 105 = .ok (.i2l, 1) := by decide +kernel
theorem dX8_copy_106 : decode cX8_copy 106 = .ok (.iload 5, 2) := by decide +kernel
theorem dX8_copy_108 : decode cX8_copy 108 = .ok (.i2l, 1) := by decide +kernel
theorem dX8_copy_109 : decode cX8_copy 109 = .ok (.ladd, 1) := by decide +kernel
theorem dX8_copy_110 : decode cX8_copy 110 = .ok (.aload_n 0, 1) := by decide +kernel
theorem dX8_copy_111 : decode cX8_copy 111 = .ok (.getfield 13, 3) := by decide +kernel
theorem dX8_copy_114 : decode cX8_copy 114 = .ok (.iload_n 3, 1) := by decide +kernel
theorem dX8_copy_115 : decode cX8_copy 115 = .ok (.iaload, 1) := by decide +kernel
theorem dX8_copy_116 : decode cX8_copy 116 = .ok (.i2l, 1) := by decide +kernel
theorem dX8_copy_117 : decode cX8_copy 117 = .ok (.lcmp, 1) := by decide +kernel
theorem dX8_copy_118 : decode cX8_copy 118 = .ok (.ifCond .le 9, 3) := by decide +kernel
theorem dX8_copy_121 : decode cX8_copy 121 = .ok (.aload_n 0, 1) := by decide +kernel
theorem dX8_copy_122 : decode cX8_copy 122 = .ok (.iconst 2, 1) := by decide +kernel
theorem dX8_copy_123 : decode cX8_copy 123 = .ok (.invokevirtual 49, 3) := by decide +kernel
theorem dX8_copy_126 : decode cX8_copy 126 = .ok (.ireturn, 1) := by decide +kernel
theorem dX8_copy_127 : decode cX8_copy 127 = .ok (.iconst 0, 1) := by decide +kernel
theorem dX8_copy_128 : decode cX8_copy 128 = .ok (.istore 6, 2) := by decide +kernel
theorem dX8_copy_130 : decode cX8_copy 130 = .ok (.iload 6, 2) := by decide +kernel
theorem dX8_copy_132 : decode cX8_copy 132 = .ok (.iload 5, 2) := by decide +kernel
theorem dX8_copy_134 : decode cX8_copy 134 = .ok (.if_icmp .ge 30, 3) := by decide +kernel
theorem dX8_copy_137 : decode cX8_copy 137 = .ok (.aload_n 0, 1) := by decide +kernel
theorem dX8_copy_138 : decode cX8_copy 138 = .ok (.getfield 22, 3) := by decide +kernel
theorem dX8_copy_141 : decode cX8_copy 141 = .ok (.iload 6, 2) := by decide +kernel
theorem dX8_copy_143 : decode cX8_copy 143 = .ok (.aload_n 0, 1) := by decide +kernel
theorem dX8_copy_144 : decode cX8_copy 144 = .ok (.getfield 19, 3) := by decide +kernel
theorem dX8_copy_147 : decode cX8_copy 147 = .ok (.bipush 40, 2) := by decide +kernel
theorem dX8_copy_149 : decode cX8_copy 149 = .ok (.iload_n 1, 1) := by decide +kernel
theorem dX8_copy_150 : decode cX8_copy 150 = .ok (.imul, 1) := by decide +kernel
theorem dX8_copy_151 : decode cX8_copy 151 = .ok (.iload_n 2, 1) := by decide +kernel
theorem dX8_copy_152 : decode cX8_copy 152 = .ok (.iadd, 1) := by decide +kernel
theorem dX8_copy_153 : decode cX8_copy 153 = .ok (.iload 6, 2) := by decide +kernel
theorem dX8_copy_155 : decode cX8_copy 155 = .ok (.iadd, 1) := by decide +kernel
theorem dX8_copy_156 : decode cX8_copy 156 = .ok (.iaload, 1) := by decide +kernel
theorem dX8_copy_157 : decode cX8_copy 157 = .ok (.iastore, 1) := by decide +kernel
theorem dX8_copy_158 : decode cX8_copy 158 = .ok (.iinc 6 1, 3) := by decide +kernel
theorem dX8_copy_161 : decode cX8_copy 161 = .ok (.goto (-31), 3) := by decide +kernel
theorem dX8_copy_164 : decode cX8_copy 164 = .ok (.iconst 0, 1) := by decide +kernel
theorem dX8_copy_165 : decode cX8_copy 165 = .ok (.istore 6, 2) := by decide +kernel
theorem dX8_copy_167 : decode cX8_copy 167 = .ok (.iload 6, 2) := by decide +kernel
theorem dX8_copy_169 : decode cX8_copy 169 = .ok (.iload 5, 2) := by decide +kernel
theorem dX8_copy_171 : decode cX8_copy 171 = .ok (.if_icmp .ge 31, 3) := by decide +kernel
theorem dX8_copy_174 : decode cX8_copy 174 = .ok (.aload_n 0, 1) := by decide +kernel
theorem dX8_copy_175 : decode cX8_copy 175 = .ok (.getfield 19, 3) := by decide +kernel
theorem dX8_copy_178 : decode cX8_copy 178 = .ok (.bipush 40, 2) := by decide +kernel
theorem dX8_copy_180 : decode cX8_copy 180 = .ok (.iload_n 3, 1) := by decide +kernel
theorem dX8_copy_181 : decode cX8_copy 181 = .ok (.imul, 1) := by decide +kernel
theorem dX8_copy_182 : decode cX8_copy 182 = .ok (.iload 4, 2) := by decide +kernel
theorem dX8_copy_184 : decode cX8_copy 184 = .ok (.iadd, 1) := by decide +kernel
theorem dX8_copy_185 : decode cX8_copy 185 = .ok (.iload 6, 2) := by decide +kernel
theorem dX8_copy_187 : decode cX8_copy 187 = .ok (.iadd, 1) := by decide +kernel
theorem dX8_copy_188 : decode cX8_copy 188 = .ok (.aload_n 0, 1) := by decide +kernel
theorem dX8_copy_189 : decode cX8_copy 189 = .ok (.getfield 22, 3) := by decide +kernel
theorem dX8_copy_192 : decode cX8_copy 192 = .ok (.iload 6, 2) := by decide +kernel
theorem dX8_copy_194 : decode cX8_copy 194 = .ok (.iaload, 1) := by decide +kernel
theorem dX8_copy_195 : decode cX8_copy 195 = .ok (.iastore, 1) := by decide +kernel
theorem dX8_copy_196 : decode cX8_copy 196 = .ok (.iinc 6 1, 3) := by decide +kernel
theorem dX8_copy_199 : decode cX8_copy 199 = .ok (.goto (-32), 3) := by decide +kernel
theorem dX8_copy_202 : decode cX8_copy 202 = .ok (.aload_n 0, 1) := by decide +kernel
theorem dX8_copy_203 : decode cX8_copy 203 = .ok (.iload 5, 2) := by decide +kernel
theorem dX8_copy_205 : decode cX8_copy 205 = .ok (.invokevirtual 53, 3) := by decide +kernel
theorem dX8_copy_208 : decode cX8_copy 208 = .ok (.ireturn, 1) := by decide +kernel
theorem lq_X8_drop_0 {w : Cond} (h : w ∈ ([.constantLong RX8 40 (7), .constant RX8 48 (-1000001), .fieldLink RX8 13 "WinterWalkModel" "size" "[I", .methodLink RX8 42 yX8_in, .static yX8_in, .initialized RX8, .code yX8_in cX8_in 6 (some .boolean), .methodLink RX8 49 yX8_finds, .instanceMethod yX8_finds, .selects RX8 yX8_finds yX8_finds, .code yX8_finds cX8_finds 2 (some .int), .fieldLink RX8 35 "WinterWalkModel" "status" "I", .constant RX8 39 (-1000010), .methodLink RX8 53 yX8_told, .instanceMethod yX8_told, .selects RX8 yX8_told yX8_told, .code yX8_told cX8_told 2 (some .int)] : List Cond)) : w ∈ wsX8_drop := List.mem_cons_of_mem _ (List.mem_append_left _ (h))
theorem lt_X8_drop_X8 : ∀ w ∈ wsX80, w ∈ wsX8_drop := fun _ h => List.mem_cons_of_mem _ (List.mem_append_right _ (h))
set_option maxRecDepth 20000 in
theorem ggX8_drop_X8_in : GoodIn wsX8_drop wsX8_in := goodIn_sub (List.forall_mem_cons.mpr ⟨lq_X8_drop_0 (List.mem_of_getElem? (i := 6) rfl), (show ∀ w ∈ ([] : List Cond), w ∈ wsX8_drop from fun _ h => absurd h List.not_mem_nil)⟩) (by decide +kernel)
set_option maxRecDepth 20000 in
theorem gX8_drop_X8_in : GoodIn wsX8_drop (va_wsS RX8 42 yX8_in wsX8_in) := goodIn_app (goodIn_sub (List.forall_mem_cons.mpr ⟨lq_X8_drop_0 (List.mem_of_getElem? (i := 3) rfl), List.forall_mem_cons.mpr ⟨lq_X8_drop_0 (List.mem_of_getElem? (i := 4) rfl), List.forall_mem_cons.mpr ⟨lq_X8_drop_0 (List.mem_of_getElem? (i := 5) rfl), fun _ h => absurd h List.not_mem_nil⟩⟩⟩) (by decide +kernel)) ggX8_drop_X8_in
set_option maxRecDepth 20000 in
theorem ggX8_drop_X8_finds : GoodIn wsX8_drop wsX8_finds := goodIn_sub (List.forall_mem_cons.mpr ⟨lq_X8_drop_0 (List.mem_of_getElem? (i := 10) rfl), (List.forall_mem_append.mpr ⟨(show ∀ w ∈ ([.fieldLink RX8 35 "WinterWalkModel" "status" "I", .constant RX8 39 (-1000010)] : List Cond), w ∈ wsX8_drop from List.forall_mem_cons.mpr ⟨lq_X8_drop_0 (List.mem_of_getElem? (i := 11) rfl), List.forall_mem_cons.mpr ⟨lq_X8_drop_0 (List.mem_of_getElem? (i := 12) rfl), fun _ h => absurd h List.not_mem_nil⟩⟩), lt_X8_drop_X8⟩)⟩) (by decide +kernel)
set_option maxRecDepth 20000 in
theorem gX8_drop_X8_finds : GoodIn wsX8_drop (wsV RX8 49 RX8 yX8_finds wsX8_finds) := goodIn_app (goodIn_sub (List.forall_mem_cons.mpr ⟨lq_X8_drop_0 (List.mem_of_getElem? (i := 7) rfl), List.forall_mem_cons.mpr ⟨lq_X8_drop_0 (List.mem_of_getElem? (i := 8) rfl), List.forall_mem_cons.mpr ⟨lq_X8_drop_0 (List.mem_of_getElem? (i := 9) rfl), List.forall_mem_cons.mpr ⟨lq_X8_drop_0 (List.mem_of_getElem? (i := 5) rfl), fun _ h => absurd h List.not_mem_nil⟩⟩⟩⟩) (by decide +kernel)) ggX8_drop_X8_finds
set_option maxRecDepth 20000 in
theorem ggX8_drop_X8_told : GoodIn wsX8_drop wsX8_told := goodIn_sub (List.forall_mem_cons.mpr ⟨lq_X8_drop_0 (List.mem_of_getElem? (i := 16) rfl), (List.forall_mem_append.mpr ⟨(show ∀ w ∈ ([.fieldLink RX8 35 "WinterWalkModel" "status" "I"] : List Cond), w ∈ wsX8_drop from List.forall_mem_cons.mpr ⟨lq_X8_drop_0 (List.mem_of_getElem? (i := 11) rfl), fun _ h => absurd h List.not_mem_nil⟩), lt_X8_drop_X8⟩)⟩) (by decide +kernel)
set_option maxRecDepth 20000 in
theorem gX8_drop_X8_told : GoodIn wsX8_drop (wsV RX8 53 RX8 yX8_told wsX8_told) := goodIn_app (goodIn_sub (List.forall_mem_cons.mpr ⟨lq_X8_drop_0 (List.mem_of_getElem? (i := 13) rfl), List.forall_mem_cons.mpr ⟨lq_X8_drop_0 (List.mem_of_getElem? (i := 14) rfl), List.forall_mem_cons.mpr ⟨lq_X8_drop_0 (List.mem_of_getElem? (i := 15) rfl), List.forall_mem_cons.mpr ⟨lq_X8_drop_0 (List.mem_of_getElem? (i := 5) rfl), fun _ h => absurd h List.not_mem_nil⟩⟩⟩⟩) (by decide +kernel)) ggX8_drop_X8_told
theorem dX8_drop_0 : decode cX8_drop 0 = .ok (.iload_n 1, 1) := by decide +kernel
theorem dX8_drop_1 : decode cX8_drop 1 = .ok (.i2l, 1) := by decide +kernel
theorem dX8_drop_2 : decode cX8_drop 2 = .ok (.lconst 0, 1) := by decide +kernel
theorem dX8_drop_3 : decode cX8_drop 3 = .ok (.ldc2_w 40, 3) := by decide +kernel
theorem dX8_drop_6 : decode cX8_drop 6 = .ok (.invokestatic 42, 3) := by decide +kernel
theorem dX8_drop_9 : decode cX8_drop 9 = .ok (.ifCond .ne 6, 3) := by decide +kernel
theorem dX8_drop_12 : decode cX8_drop 12 = .ok (.ldc 48, 2) := by decide +kernel
theorem dX8_drop_14 : decode cX8_drop 14 = .ok (.ireturn, 1) := by decide +kernel
theorem dX8_drop_15 : decode cX8_drop 15 = .ok (.aload_n 0, 1) := by decide +kernel
theorem dX8_drop_16 : decode cX8_drop 16 = .ok (.getfield 13, 3) := by decide +kernel
theorem dX8_drop_19 : decode cX8_drop 19 = .ok (.iload_n 1, 1) := by decide +kernel
theorem dX8_drop_20 : decode cX8_drop 20 = .ok (.iaload, 1) := by decide +kernel
theorem dX8_drop_21 : decode cX8_drop 21 = .ok (.ifCond .ge 9, 3) := by decide +kernel
theorem dX8_drop_24 : decode cX8_drop 24 = .ok (.aload_n 0, 1) := by decide +kernel
theorem dX8_drop_25 : decode cX8_drop 25 = .ok (.iconst 1, 1) := by decide +kernel
theorem dX8_drop_26 : decode cX8_drop 26 = .ok (.invokevirtual 49, 3) := by decide +kernel
theorem dX8_drop_29 : decode cX8_drop 29 = .ok (.ireturn, 1) := by decide +kernel
theorem dX8_drop_30 : decode cX8_drop 30 = .ok (.aload_n 0, 1) := by decide +kernel
theorem dX8_drop_31 : decode cX8_drop 31 = .ok (.getfield 13, 3) := by decide +kernel
theorem dX8_drop_34 : decode cX8_drop 34 = .ok (.iload_n 1, 1) := by decide +kernel
theorem dX8_drop_35 : decode cX8_drop 35 = .ok (.iaload, 1) := by decide +kernel
theorem dX8_drop_36 : decode cX8_drop 36 = .ok (.istore_n 2, 1) := by decide +kernel
theorem dX8_drop_37 : decode cX8_drop 37 = .ok (.aload_n 0, 1) := by decide +kernel
theorem dX8_drop_38 : decode cX8_drop 38 = .ok (.getfield 13, 3) := by decide +kernel
theorem dX8_drop_41 : decode cX8_drop 41 = .ok (.iload_n 1, 1) := by decide +kernel
theorem dX8_drop_42 : decode cX8_drop 42 = .ok (.iconst (-1), 1) := by decide +kernel
theorem dX8_drop_43 : decode cX8_drop 43 = .ok (.iastore, 1) := by decide +kernel
theorem dX8_drop_44 : decode cX8_drop 44 = .ok (.aload_n 0, 1) := by decide +kernel
theorem dX8_drop_45 : decode cX8_drop 45 = .ok (.iload_n 2, 1) := by decide +kernel
theorem dX8_drop_46 : decode cX8_drop 46 = .ok (.invokevirtual 53, 3) := by decide +kernel
theorem dX8_drop_49 : decode cX8_drop 49 = .ok (.ireturn, 1) := by decide +kernel
theorem lq_X8_feed_0 {w : Cond} (h : w ∈ ([.constantLong RX8 56 (255), .constant RX8 48 (-1000001), .fieldLink RX8 58 "WinterWalkModel" "length" "I", .constant RX8 61 (-1000003), .fieldLink RX8 25 "WinterWalkModel" "tape" "[B", .methodLink RX8 42 yX8_in, .static yX8_in, .initialized RX8, .code yX8_in cX8_in 6 (some .boolean)] : List Cond)) : w ∈ wsX8_feed := List.mem_cons_of_mem _ (List.mem_append_left _ (h))
theorem lt_X8_feed_X8 : ∀ w ∈ wsX80, w ∈ wsX8_feed := fun _ h => List.mem_cons_of_mem _ (List.mem_append_right _ (h))
set_option maxRecDepth 20000 in
theorem ggX8_feed_X8_in : GoodIn wsX8_feed wsX8_in := goodIn_sub (List.forall_mem_cons.mpr ⟨lq_X8_feed_0 (List.mem_of_getElem? (i := 8) rfl), (show ∀ w ∈ ([] : List Cond), w ∈ wsX8_feed from fun _ h => absurd h List.not_mem_nil)⟩) (by decide +kernel)
set_option maxRecDepth 20000 in
theorem gX8_feed_X8_in : GoodIn wsX8_feed (va_wsS RX8 42 yX8_in wsX8_in) := goodIn_app (goodIn_sub (List.forall_mem_cons.mpr ⟨lq_X8_feed_0 (List.mem_of_getElem? (i := 5) rfl), List.forall_mem_cons.mpr ⟨lq_X8_feed_0 (List.mem_of_getElem? (i := 6) rfl), List.forall_mem_cons.mpr ⟨lq_X8_feed_0 (List.mem_of_getElem? (i := 7) rfl), fun _ h => absurd h List.not_mem_nil⟩⟩⟩) (by decide +kernel)) ggX8_feed_X8_in
theorem dX8_feed_0 : decode cX8_feed 0 = .ok (.iload_n 1, 1) := by decide +kernel
theorem dX8_feed_1 : decode cX8_feed 1 = .ok (.i2l, 1) := by decide +kernel
theorem dX8_feed_2 : decode cX8_feed 2 = .ok (.lconst 0, 1) := by decide +kernel
theorem dX8_feed_3 : decode cX8_feed 3 = .ok (.ldc2_w 56, 3) := by decide +kernel
theorem dX8_feed_6 : decode cX8_feed 6 = .ok (.invokestatic 42, 3) := by decide +kernel
theorem dX8_feed_9 : decode cX8_feed 9 = .ok (.ifCond .ne 6, 3) := by decide +kernel
theorem dX8_feed_12 : decode cX8_feed 12 = .ok (.ldc 48, 2) := by decide +kernel
theorem dX8_feed_14 : decode cX8_feed 14 = .ok (.ireturn, 1) := by decide +kernel
theorem dX8_feed_15 : decode cX8_feed 15 = .ok (.aload_n 0, 1) := by decide +kernel
theorem dX8_feed_16 : decode cX8_feed 16 = .ok (.getfield 58, 3) := by decide +kernel
theorem dX8_feed_19 : decode cX8_feed 19 = .ok (.bipush 120, 2) := by decide +kernel
theorem dX8_feed_21 : decode cX8_feed 21 = .ok (.if_icmp .ne 6, 3) := by decide +kernel
theorem dX8_feed_24 : decode cX8_feed 24 = .ok (.ldc 61, 2) := by decide +kernel
theorem dX8_feed_26 : decode cX8_feed 26 = .ok (.ireturn, 1) := by decide +kernel
theorem dX8_feed_27 : decode cX8_feed 27 = .ok (.aload_n 0, 1) := by decide +kernel
theorem dX8_feed_28 : decode cX8_feed 28 = .ok (.getfield 25, 3) := by decide +kernel
theorem dX8_feed_31 : decode cX8_feed 31 = .ok (.aload_n 0, 1) := by decide +kernel
theorem dX8_feed_32 : decode cX8_feed 32 = .ok (.getfield 58, 3) := by decide +kernel
theorem dX8_feed_35 : decode cX8_feed 35 = .ok (.iload_n 1, 1) := by decide +kernel
theorem dX8_feed_36 : decode cX8_feed 36 = .ok (.i2b, 1) := by decide +kernel
theorem dX8_feed_37 : decode cX8_feed 37 = .ok (.bastore, 1) := by decide +kernel
theorem dX8_feed_38 : decode cX8_feed 38 = .ok (.aload_n 0, 1) := by decide +kernel
theorem dX8_feed_39 : decode cX8_feed 39 = .ok (.dup, 1) := by decide +kernel
theorem dX8_feed_40 : decode cX8_feed 40 = .ok (.getfield 58, 3) := by decide +kernel
theorem dX8_feed_43 : decode cX8_feed 43 = .ok (.iconst 1, 1) := by decide +kernel
theorem dX8_feed_44 : decode cX8_feed 44 = .ok (.iadd, 1) := by decide +kernel
theorem dX8_feed_45 : decode cX8_feed 45 = .ok (.putfield 58, 3) := by decide +kernel
theorem dX8_feed_48 : decode cX8_feed 48 = .ok (.aload_n 0, 1) := by decide +kernel
theorem dX8_feed_49 : decode cX8_feed 49 = .ok (.getfield 58, 3) := by decide +kernel
theorem dX8_feed_52 : decode cX8_feed 52 = .ok (.ireturn, 1) := by decide +kernel
theorem dX8_next_0 : decode cX8_next 0 = .ok (.aload_n 0, 1) := by decide +kernel
theorem dX8_next_1 : decode cX8_next 1 = .ok (.getfield 62, 3) := by decide +kernel
theorem dX8_next_4 : decode cX8_next 4 = .ok (.aload_n 0, 1) := by decide +kernel
theorem dX8_next_5 : decode cX8_next 5 = .ok (.getfield 58, 3) := by decide +kernel
theorem dX8_next_8 : decode cX8_next 8 = .ok (.if_icmp .ge 15, 3) := by decide +kernel
theorem dX8_next_11 : decode cX8_next 11 = .ok (.aload_n 0, 1) := by decide +kernel
theorem dX8_next_12 : decode cX8_next 12 = .ok (.getfield 25, 3) := by decide +kernel
theorem dX8_next_15 : decode cX8_next 15 = .ok (.aload_n 0, 1) := by decide +kernel
theorem dX8_next_16 : decode cX8_next 16 = .ok (.getfield 62, 3) := by decide +kernel
theorem dX8_next_19 : decode cX8_next 19 = .ok (.baload, 1) := by decide +kernel
theorem dX8_next_20 : decode cX8_next 20 = .ok (.goto 4, 3) := by decide +kernel
theorem dX8_next_23 : decode cX8_next 23 = .ok (.iconst (-1), 1) := by decide +kernel
theorem dX8_next_24 : decode cX8_next 24 = .ok (.ireturn, 1) := by decide +kernel
theorem dX8_fails_0 : decode cX8_fails 0 = .ok (.aload_n 0, 1) := by decide +kernel
theorem dX8_fails_1 : decode cX8_fails 1 = .ok (.iload_n 1, 1) := by decide +kernel
theorem dX8_fails_2 : decode cX8_fails 2 = .ok (.putfield 65, 3) := by decide +kernel
theorem dX8_fails_5 : decode cX8_fails 5 = .ok (.aload_n 0, 1) := by decide +kernel
theorem dX8_fails_6 : decode cX8_fails 6 = .ok (.iload_n 2, 1) := by decide +kernel
theorem dX8_fails_7 : decode cX8_fails 7 = .ok (.putfield 68, 3) := by decide +kernel
theorem dX8_fails_10 : decode cX8_fails 10 = .ok (.iconst 0, 1) := by decide +kernel
theorem dX8_fails_11 : decode cX8_fails 11 = .ok (.ireturn, 1) := by decide +kernel
theorem lq_X8_isSign_0 {w : Cond} (h : w ∈ ([.fieldLink RX8 62 "WinterWalkModel" "at" "I", .methodLink RX8 71 yX8_next, .instanceMethod yX8_next, .selects RX8 yX8_next yX8_next, .initialized RX8, .code yX8_next cX8_next 1 (some .int), .fieldLink RX8 58 "WinterWalkModel" "length" "I", .fieldLink RX8 25 "WinterWalkModel" "tape" "[B", .methodLink RX8 75 yX8_fails, .instanceMethod yX8_fails, .selects RX8 yX8_fails yX8_fails, .code yX8_fails cX8_fails 3 (some .boolean), .fieldLink RX8 65 "WinterWalkModel" "fault" "I", .fieldLink RX8 68 "WinterWalkModel" "place" "I"] : List Cond)) : w ∈ wsX8_isSign := List.mem_cons_of_mem _ (List.mem_append_left _ (h))
theorem lt_X8_isSign_X8 : ∀ w ∈ wsX80, w ∈ wsX8_isSign := fun _ h => List.mem_cons_of_mem _ (List.mem_append_right _ (h))
set_option maxRecDepth 20000 in
theorem ggX8_isSign_X8_next : GoodIn wsX8_isSign wsX8_next := goodIn_sub (List.forall_mem_cons.mpr ⟨lq_X8_isSign_0 (List.mem_of_getElem? (i := 5) rfl), (List.forall_mem_append.mpr ⟨(show ∀ w ∈ ([.fieldLink RX8 62 "WinterWalkModel" "at" "I", .fieldLink RX8 58 "WinterWalkModel" "length" "I", .fieldLink RX8 25 "WinterWalkModel" "tape" "[B"] : List Cond), w ∈ wsX8_isSign from List.forall_mem_cons.mpr ⟨lq_X8_isSign_0 (List.mem_of_getElem? (i := 0) rfl), List.forall_mem_cons.mpr ⟨lq_X8_isSign_0 (List.mem_of_getElem? (i := 6) rfl), List.forall_mem_cons.mpr ⟨lq_X8_isSign_0 (List.mem_of_getElem? (i := 7) rfl), fun _ h => absurd h List.not_mem_nil⟩⟩⟩), lt_X8_isSign_X8⟩)⟩) (by decide +kernel)
set_option maxRecDepth 20000 in
theorem gX8_isSign_X8_next : GoodIn wsX8_isSign (wsV RX8 71 RX8 yX8_next wsX8_next) := goodIn_app (goodIn_sub (List.forall_mem_cons.mpr ⟨lq_X8_isSign_0 (List.mem_of_getElem? (i := 1) rfl), List.forall_mem_cons.mpr ⟨lq_X8_isSign_0 (List.mem_of_getElem? (i := 2) rfl), List.forall_mem_cons.mpr ⟨lq_X8_isSign_0 (List.mem_of_getElem? (i := 3) rfl), List.forall_mem_cons.mpr ⟨lq_X8_isSign_0 (List.mem_of_getElem? (i := 4) rfl), fun _ h => absurd h List.not_mem_nil⟩⟩⟩⟩) (by decide +kernel)) ggX8_isSign_X8_next
set_option maxRecDepth 20000 in
theorem ggX8_isSign_X8_fails : GoodIn wsX8_isSign wsX8_fails := goodIn_sub (List.forall_mem_cons.mpr ⟨lq_X8_isSign_0 (List.mem_of_getElem? (i := 11) rfl), (List.forall_mem_append.mpr ⟨(show ∀ w ∈ ([.fieldLink RX8 65 "WinterWalkModel" "fault" "I", .fieldLink RX8 68 "WinterWalkModel" "place" "I"] : List Cond), w ∈ wsX8_isSign from List.forall_mem_cons.mpr ⟨lq_X8_isSign_0 (List.mem_of_getElem? (i := 12) rfl), List.forall_mem_cons.mpr ⟨lq_X8_isSign_0 (List.mem_of_getElem? (i := 13) rfl), fun _ h => absurd h List.not_mem_nil⟩⟩), lt_X8_isSign_X8⟩)⟩) (by decide +kernel)
set_option maxRecDepth 20000 in
theorem gX8_isSign_X8_fails : GoodIn wsX8_isSign (wsV RX8 75 RX8 yX8_fails wsX8_fails) := goodIn_app (goodIn_sub (List.forall_mem_cons.mpr ⟨lq_X8_isSign_0 (List.mem_of_getElem? (i := 8) rfl), List.forall_mem_cons.mpr ⟨lq_X8_isSign_0 (List.mem_of_getElem? (i := 9) rfl), List.forall_mem_cons.mpr ⟨lq_X8_isSign_0 (List.mem_of_getElem? (i := 10) rfl), List.forall_mem_cons.mpr ⟨lq_X8_isSign_0 (List.mem_of_getElem? (i := 4) rfl), fun _ h => absurd h List.not_mem_nil⟩⟩⟩⟩) (by decide +kernel)) ggX8_isSign_X8_fails
theorem dX8_isSign_0 : decode cX8_isSign 0 = .ok (.aload_n 0, 1) := by decide +kernel
theorem dX8_isSign_1 : decode cX8_isSign 1 = .ok (.invokevirtual 71, 3) := by decide +kernel
theorem dX8_isSign_4 : decode cX8_isSign 4 = .ok (.iload_n 1, 1) := by decide +kernel
theorem dX8_isSign_5 : decode cX8_isSign 5 = .ok (.if_icmp .eq 13, 3) := by decide +kernel
theorem dX8_isSign_8 : decode cX8_isSign 8 = .ok (.aload_n 0, 1) := by decide +kernel
theorem dX8_isSign_9 : decode cX8_isSign 9 = .ok (.iconst 1, 1) := by decide +kernel
theorem dX8_isSign_10 : decode cX8_isSign 10 = .ok (.aload_n 0, 1) := by decide +kernel
theorem dX8_isSign_11 : decode cX8_isSign 11 = .ok (.getfield 62, 3) := by decide +kernel
theorem dX8_isSign_14 : decode cX8_isSign 14 = .ok (.invokevirtual 75, 3) := by decide +kernel
theorem dX8_isSign_17 : decode cX8_isSign 17 = .ok (.ireturn, 1) := by decide +kernel
theorem dX8_isSign_18 : decode cX8_isSign 18 = .ok (.aload_n 0, 1) := by decide +kernel
theorem dX8_isSign_19 : decode cX8_isSign 19 = .ok (.dup, 1) := by decide +kernel
theorem dX8_isSign_20 : decode cX8_isSign 20 = .ok (.getfield 62, 3) := by decide +kernel
theorem dX8_isSign_23 : decode cX8_isSign 23 = .ok (.iconst 1, 1) := by decide +kernel
theorem dX8_isSign_24 : decode cX8_isSign 24 = .ok (.iadd, 1) := by decide +kernel
theorem dX8_isSign_25 : decode cX8_isSign 25 = .ok (.putfield 62, 3) := by decide +kernel
theorem dX8_isSign_28 : decode cX8_isSign 28 = .ok (.iconst 1, 1) := by decide +kernel
theorem dX8_isSign_29 : decode cX8_isSign 29 = .ok (.ireturn, 1) := by decide +kernel
theorem lq_X8_isNumber_0 {w : Cond} (h : w ∈ ([.fieldLink RX8 62 "WinterWalkModel" "at" "I", .constantLong RX8 79 (48), .constantLong RX8 81 (57), .constantLong RX8 46 (2), .fieldLink RX8 83 "WinterWalkModel" "number" "I", .methodLink RX8 71 yX8_next, .instanceMethod yX8_next, .selects RX8 yX8_next yX8_next, .initialized RX8, .code yX8_next cX8_next 1 (some .int), .fieldLink RX8 58 "WinterWalkModel" "length" "I", .fieldLink RX8 25 "WinterWalkModel" "tape" "[B", .methodLink RX8 42 yX8_in, .static yX8_in, .code yX8_in cX8_in 6 (some .boolean), .methodLink RX8 75 yX8_fails, .instanceMethod yX8_fails, .selects RX8 yX8_fails yX8_fails, .code yX8_fails cX8_fails 3 (some .boolean), .fieldLink RX8 65 "WinterWalkModel" "fault" "I", .fieldLink RX8 68 "WinterWalkModel" "place" "I"] : List Cond)) : w ∈ wsX8_isNumber := List.mem_cons_of_mem _ (List.mem_append_left _ (h))
theorem lt_X8_isNumber_X8 : ∀ w ∈ wsX80, w ∈ wsX8_isNumber := fun _ h => List.mem_cons_of_mem _ (List.mem_append_right _ (h))
set_option maxRecDepth 20000 in
theorem ggX8_isNumber_X8_next : GoodIn wsX8_isNumber wsX8_next := goodIn_sub (List.forall_mem_cons.mpr ⟨lq_X8_isNumber_0 (List.mem_of_getElem? (i := 9) rfl), (List.forall_mem_append.mpr ⟨(show ∀ w ∈ ([.fieldLink RX8 62 "WinterWalkModel" "at" "I", .fieldLink RX8 58 "WinterWalkModel" "length" "I", .fieldLink RX8 25 "WinterWalkModel" "tape" "[B"] : List Cond), w ∈ wsX8_isNumber from List.forall_mem_cons.mpr ⟨lq_X8_isNumber_0 (List.mem_of_getElem? (i := 0) rfl), List.forall_mem_cons.mpr ⟨lq_X8_isNumber_0 (List.mem_of_getElem? (i := 10) rfl), List.forall_mem_cons.mpr ⟨lq_X8_isNumber_0 (List.mem_of_getElem? (i := 11) rfl), fun _ h => absurd h List.not_mem_nil⟩⟩⟩), lt_X8_isNumber_X8⟩)⟩) (by decide +kernel)
set_option maxRecDepth 20000 in
theorem gX8_isNumber_X8_next : GoodIn wsX8_isNumber (wsV RX8 71 RX8 yX8_next wsX8_next) := goodIn_app (goodIn_sub (List.forall_mem_cons.mpr ⟨lq_X8_isNumber_0 (List.mem_of_getElem? (i := 5) rfl), List.forall_mem_cons.mpr ⟨lq_X8_isNumber_0 (List.mem_of_getElem? (i := 6) rfl), List.forall_mem_cons.mpr ⟨lq_X8_isNumber_0 (List.mem_of_getElem? (i := 7) rfl), List.forall_mem_cons.mpr ⟨lq_X8_isNumber_0 (List.mem_of_getElem? (i := 8) rfl), fun _ h => absurd h List.not_mem_nil⟩⟩⟩⟩) (by decide +kernel)) ggX8_isNumber_X8_next
set_option maxRecDepth 20000 in
theorem ggX8_isNumber_X8_in : GoodIn wsX8_isNumber wsX8_in := goodIn_sub (List.forall_mem_cons.mpr ⟨lq_X8_isNumber_0 (List.mem_of_getElem? (i := 14) rfl), (show ∀ w ∈ ([] : List Cond), w ∈ wsX8_isNumber from fun _ h => absurd h List.not_mem_nil)⟩) (by decide +kernel)
set_option maxRecDepth 20000 in
theorem gX8_isNumber_X8_in : GoodIn wsX8_isNumber (va_wsS RX8 42 yX8_in wsX8_in) := goodIn_app (goodIn_sub (List.forall_mem_cons.mpr ⟨lq_X8_isNumber_0 (List.mem_of_getElem? (i := 12) rfl), List.forall_mem_cons.mpr ⟨lq_X8_isNumber_0 (List.mem_of_getElem? (i := 13) rfl), List.forall_mem_cons.mpr ⟨lq_X8_isNumber_0 (List.mem_of_getElem? (i := 8) rfl), fun _ h => absurd h List.not_mem_nil⟩⟩⟩) (by decide +kernel)) ggX8_isNumber_X8_in
set_option maxRecDepth 20000 in
theorem ggX8_isNumber_X8_fails : GoodIn wsX8_isNumber wsX8_fails := goodIn_sub (List.forall_mem_cons.mpr ⟨lq_X8_isNumber_0 (List.mem_of_getElem? (i := 18) rfl), (List.forall_mem_append.mpr ⟨(show ∀ w ∈ ([.fieldLink RX8 65 "WinterWalkModel" "fault" "I", .fieldLink RX8 68 "WinterWalkModel" "place" "I"] : List Cond), w ∈ wsX8_isNumber from List.forall_mem_cons.mpr ⟨lq_X8_isNumber_0 (List.mem_of_getElem? (i := 19) rfl), List.forall_mem_cons.mpr ⟨lq_X8_isNumber_0 (List.mem_of_getElem? (i := 20) rfl), fun _ h => absurd h List.not_mem_nil⟩⟩), lt_X8_isNumber_X8⟩)⟩) (by decide +kernel)
set_option maxRecDepth 20000 in
theorem gX8_isNumber_X8_fails : GoodIn wsX8_isNumber (wsV RX8 75 RX8 yX8_fails wsX8_fails) := goodIn_app (goodIn_sub (List.forall_mem_cons.mpr ⟨lq_X8_isNumber_0 (List.mem_of_getElem? (i := 15) rfl), List.forall_mem_cons.mpr ⟨lq_X8_isNumber_0 (List.mem_of_getElem? (i := 16) rfl), List.forall_mem_cons.mpr ⟨lq_X8_isNumber_0 (List.mem_of_getElem? (i := 17) rfl), List.forall_mem_cons.mpr ⟨lq_X8_isNumber_0 (List.mem_of_getElem? (i := 8) rfl), fun _ h => absurd h List.not_mem_nil⟩⟩⟩⟩) (by decide +kernel)) ggX8_isNumber_X8_fails
theorem dX8_isNumber_0 : decode cX8_isNumber 0 = .ok (.aload_n 0, 1) := by decide +kernel
theorem dX8_isNumber_1 : decode cX8_isNumber 1 = .ok (.getfield 62, 3) := by decide +kernel
theorem dX8_isNumber_4 : decode cX8_isNumber 4 = .ok (.istore_n 3, 1) := by decide +kernel
theorem dX8_isNumber_5 : decode cX8_isNumber 5 = .ok (.iconst 0, 1) := by decide +kernel
theorem dX8_isNumber_6 : decode cX8_isNumber 6 = .ok (.istore 4, 2) := by decide +kernel
theorem dX8_isNumber_8 : decode cX8_isNumber 8 = .ok (.aload_n 0, 1) := by decide +kernel
theorem dX8_isNumber_9 : decode cX8_isNumber 9 = .ok (.invokevirtual 71, 3) := by decide +kernel
theorem dX8_isNumber_12 : decode cX8_isNumber 12 = .ok (.i2l, 1) := by decide +kernel
theorem dX8_isNumber_13 : decode cX8_isNumber 13 = .ok (.ldc2_w 79, 3) := by decide +kernel
theorem dX8_isNumber_16 : decode cX8_isNumber 16 = .ok (.ldc2_w 81, 3) := by decide +kernel
theorem dX8_isNumber_19 : decode cX8_isNumber 19 = .ok (.invokestatic 42, 3) := by decide +kernel
theorem dX8_isNumber_22 : decode cX8_isNumber 22 = .ok (.ifCond .eq 46, 3) := by decide +kernel
theorem dX8_isNumber_25 : decode cX8_isNumber 25 = .ok (.aload_n 0, 1) := by decide +kernel
theorem dX8_isNumber_26 : decode cX8_isNumber 26 = .ok (.getfield 62, 3) := by decide +kernel
theorem dX8_isNumber_29 : decode cX8_isNumber 29 = .ok (.iload_n 3, 1) := by decide +kernel
theorem dX8_isNumber_30 : decode cX8_isNumber 30 = .ok (.isub, 1) := by decide +kernel
theorem dX8_isNumber_31 : decode cX8_isNumber 31 = .ok (.iconst 2, 1) := by decide +kernel
theorem dX8_isNumber_32 : decode cX8_isNumber 32 = .ok (.if_icmp .ge 19, 3) := by decide +kernel
theorem dX8_isNumber_35 : decode cX8_isNumber 35 = .ok (.bipush 10, 2) := by decide +kernel
theorem dX8_isNumber_37 : decode cX8_isNumber 37 = .ok (.iload 4, 2) := by decide +kernel
theorem dX8_isNumber_39 : decode cX8_isNumber 39 = .ok (.imul, 1) := by decide +kernel
theorem dX8_isNumber_40 : decode cX8_isNumber 40 = .ok (.aload_n 0, 1) := by decide +kernel
theorem dX8_isNumber_41 : decode cX8_isNumber 41 = .ok (.invokevirtual 71, 3) := by decide +kernel
theorem dX8_isNumber_44 : decode cX8_isNumber 44 = .ok (.iadd, 1) := by decide +kernel
theorem dX8_isNumber_45 : decode cX8_isNumber 45 = .ok (.bipush 48, 2) := by decide +kernel
theorem dX8_isNumber_47 : decode cX8_isNumber 47 = .ok (.isub, 1) := by decide +kernel
theorem dX8_isNumber_48 : decode cX8_isNumber 48 = .ok (.goto 5, 3) := by decide +kernel
theorem dX8_isNumber_51 : decode cX8_isNumber 51 = .ok (.iload 4, 2) := by decide +kernel
theorem dX8_isNumber_53 : decode cX8_isNumber 53 = .ok (.istore 4, 2) := by decide +kernel
theorem dX8_isNumber_55 : decode cX8_isNumber 55 = .ok (.aload_n 0, 1) := by decide +kernel
theorem dX8_isNumber_56 : decode cX8_isNumber 56 = .ok (.dup, 1) := by decide +kernel
theorem dX8_isNumber_57 : decode cX8_isNumber 57 = .ok (.getfield 62, 3) := by decide +kernel
theorem dX8_isNumber_60 : decode cX8_isNumber 60 = .ok (.iconst 1, 1) := by decide +kernel
theorem dX8_isNumber_61 : decode cX8_isNumber 61 = .ok (.iadd, 1) := by decide +kernel
theorem dX8_isNumber_62 : decode cX8_isNumber 62 = .ok (.putfield 62, 3) := by decide +kernel
theorem dX8_isNumber_65 : decode cX8_isNumber 65 = .ok (.goto (-57), 3) := by decide +kernel
theorem dX8_isNumber_68 : decode cX8_isNumber 68 = .ok (.aload_n 0, 1) := by decide +kernel
theorem dX8_isNumber_69 : decode cX8_isNumber 69 = .ok (.getfield 62, 3) := by decide +kernel
theorem dX8_isNumber_72 : decode cX8_isNumber 72 = .ok (.iload_n 3, 1) := by decide +kernel
theorem dX8_isNumber_73 : decode cX8_isNumber 73 = .ok (.isub, 1) := by decide +kernel
theorem dX8_isNumber_74 : decode cX8_isNumber 74 = .ok (.i2l, 1) := by decide +kernel
theorem dX8_isNumber_75 : decode cX8_isNumber 75 = .ok (.lconst 1, 1) := by decide +kernel
theorem dX8_isNumber_76 : decode cX8_isNumber 76 = .ok (.ldc2_w 46, 3) := by decide +kernel
theorem dX8_isNumber_79 : decode cX8_isNumber 79 = .ok (.invokestatic 42, 3) := by decide +kernel
theorem dX8_isNumber_82 : decode cX8_isNumber 82 = .ok (.ifCond .ne 10, 3) := by decide +kernel
theorem dX8_isNumber_85 : decode cX8_isNumber 85 = .ok (.aload_n 0, 1) := by decide +kernel
theorem dX8_isNumber_86 : decode cX8_isNumber 86 = .ok (.iconst 1, 1) := by decide +kernel
theorem dX8_isNumber_87 : decode cX8_isNumber 87 = .ok (.iload_n 3, 1) := by decide +kernel
theorem dX8_isNumber_88 : decode cX8_isNumber 88 = .ok (.invokevirtual 75, 3) := by decide +kernel
theorem dX8_isNumber_91 : decode cX8_isNumber 91 = .ok (.ireturn, 1) := by decide +kernel
theorem dX8_isNumber_92 : decode cX8_isNumber 92 = .ok (.aload_n 0, 1) := by decide +kernel
theorem dX8_isNumber_93 : decode cX8_isNumber 93 = .ok (.iload 4, 2) := by decide +kernel
theorem dX8_isNumber_95 : decode cX8_isNumber 95 = .ok (.putfield 83, 3) := by decide +kernel
theorem dX8_isNumber_98 : decode cX8_isNumber 98 = .ok (.iload 4, 2) := by decide +kernel
theorem dX8_isNumber_100 : decode cX8_isNumber 100 = .ok (.i2l, 1) := by decide +kernel
theorem dX8_isNumber_101 : decode cX8_isNumber 101 = .ok (.iload_n 1, 1) := by decide +kernel
theorem dX8_isNumber_102 : decode cX8_isNumber 102 = .ok (.i2l, 1) := by decide +kernel
theorem dX8_isNumber_103 : decode cX8_isNumber 103 = .ok (.iload_n 2, 1) := by decide +kernel
theorem dX8_isNumber_104 : decode cX8_isNumber 104 = .ok (.i2l, 1) := by decide +kernel
theorem dX8_isNumber_105 : decode cX8_isNumber 105 = .ok (.invokestatic 42, 3) := by decide +kernel
theorem dX8_isNumber_108 : decode cX8_isNumber 108 = .ok (.ifCond .ne 12, 3) := by decide +kernel
theorem dX8_isNumber_111 : decode cX8_isNumber 111 = .ok (.aload_n 0, 1) := by decide +kernel
theorem dX8_isNumber_112 : decode cX8_isNumber 112 = .ok (.iconst 2, 1) := by decide +kernel
theorem dX8_isNumber_113 : decode cX8_isNumber 113 = .ok (.iload_n 3, 1) := by decide +kernel
theorem dX8_isNumber_114 : decode cX8_isNumber 114 = .ok (.invokevirtual 75, 3) := by decide +kernel
theorem dX8_isNumber_117 : decode cX8_isNumber 117 = .ok (.ifCond .eq 7, 3) := by decide +kernel
theorem dX8_isNumber_120 : decode cX8_isNumber 120 = .ok (.iconst 1, 1) := by decide +kernel
theorem dX8_isNumber_121 : decode cX8_isNumber 121 = .ok (.goto 4, 3) := by decide +kernel
theorem dX8_isNumber_124 : decode cX8_isNumber 124 = .ok (.iconst 0, 1) := by decide +kernel
theorem dX8_isNumber_125 : decode cX8_isNumber 125 = .ok (.ireturn, 1) := by decide +kernel
theorem dX8_sortOf_0 : decode cX8_sortOf 0 = .ok (.iload_n 0, 1) := by decide +kernel
theorem dX8_sortOf_1 : decode cX8_sortOf 1 = .ok (.bipush 111, 2) := by decide +kernel
theorem dX8_sortOf_3 : decode cX8_sortOf 3 = .ok (.if_icmp .ne 7, 3) := by decide +kernel
theorem dX8_sortOf_6 : decode cX8_sortOf 6 = .ok (.iconst 1, 1) := by decide +kernel
theorem dX8_sortOf_7 : decode cX8_sortOf 7 = .ok (.goto 44, 3) := by decide +kernel
theorem dX8_sortOf_10 : decode cX8_sortOf 10 = .ok (.iload_n 0, 1) := by decide +kernel
theorem dX8_sortOf_11 : decode cX8_sortOf 11 = .ok (.bipush 115, 2) := by decide +kernel
theorem dX8_sortOf_13 : decode cX8_sortOf 13 = .ok (.if_icmp .ne 7, 3) := by decide +kernel
theorem dX8_sortOf_16 : decode cX8_sortOf 16 = .ok (.iconst 2, 1) := by decide +kernel
theorem dX8_sortOf_17 : decode cX8_sortOf 17 = .ok (.goto 34, 3) := by decide +kernel
theorem dX8_sortOf_20 : decode cX8_sortOf 20 = .ok (.iload_n 0, 1) := by decide +kernel
theorem dX8_sortOf_21 : decode cX8_sortOf 21 = .ok (.bipush 108, 2) := by decide +kernel
theorem dX8_sortOf_23 : decode cX8_sortOf 23 = .ok (.if_icmp .ne 7, 3) := by decide +kernel
theorem dX8_sortOf_26 : decode cX8_sortOf 26 = .ok (.iconst 3, 1) := by decide +kernel
theorem dX8_sortOf_27 : decode cX8_sortOf 27 = .ok (.goto 24, 3) := by decide +kernel
theorem dX8_sortOf_30 : decode cX8_sortOf 30 = .ok (.iload_n 0, 1) := by decide +kernel
theorem dX8_sortOf_31 : decode cX8_sortOf 31 = .ok (.bipush 116, 2) := by decide +kernel
theorem dX8_sortOf_33 : decode cX8_sortOf 33 = .ok (.if_icmp .ne 7, 3) := by decide +kernel
theorem dX8_sortOf_36 : decode cX8_sortOf 36 = .ok (.iconst 4, 1) := by decide +kernel
theorem dX8_sortOf_37 : decode cX8_sortOf 37 = .ok (.goto 14, 3) := by decide +kernel
theorem dX8_sortOf_40 : decode cX8_sortOf 40 = .ok (.iload_n 0, 1) := by decide +kernel
theorem dX8_sortOf_41 : decode cX8_sortOf 41 = .ok (.bipush 101, 2) := by decide +kernel
theorem dX8_sortOf_43 : decode cX8_sortOf 43 = .ok (.if_icmp .ne 7, 3) := by decide +kernel
theorem dX8_sortOf_46 : decode cX8_sortOf 46 = .ok (.iconst 5, 1) := by decide +kernel
theorem dX8_sortOf_47 : decode cX8_sortOf 47 = .ok (.goto 4, 3) := by decide +kernel
theorem dX8_sortOf_50 : decode cX8_sortOf 50 = .ok (.iconst 0, 1) := by decide +kernel
theorem dX8_sortOf_51 : decode cX8_sortOf 51 = .ok (.ireturn, 1) := by decide +kernel
theorem lq_X8_isVillage_0 {w : Cond} (h : w ∈ (wsX8_isVillage_r1 : List Cond)) : w ∈ wsX8_isVillage := List.mem_cons_of_mem _ (List.mem_append_left _ (List.mem_append_left _ (h)))
theorem lq_X8_isVillage_1 {w : Cond} (h : w ∈ (wsX8_isVillage_r2 : List Cond)) : w ∈ wsX8_isVillage := List.mem_cons_of_mem _ (List.mem_append_left _ (List.mem_append_right _ (h)))
theorem lt_X8_isVillage_X8 : ∀ w ∈ wsX80, w ∈ wsX8_isVillage := fun _ h => List.mem_cons_of_mem _ (List.mem_append_right _ (h))
set_option maxRecDepth 20000 in
theorem ggX8_isVillage_X8_fails : GoodIn wsX8_isVillage wsX8_fails := goodIn_sub (List.forall_mem_cons.mpr ⟨lq_X8_isVillage_0 (List.mem_of_getElem? (i := 7) rfl), (List.forall_mem_append.mpr ⟨(show ∀ w ∈ ([.fieldLink RX8 65 "WinterWalkModel" "fault" "I", .fieldLink RX8 68 "WinterWalkModel" "place" "I"] : List Cond), w ∈ wsX8_isVillage from List.forall_mem_cons.mpr ⟨lq_X8_isVillage_0 (List.mem_of_getElem? (i := 8) rfl), List.forall_mem_cons.mpr ⟨lq_X8_isVillage_0 (List.mem_of_getElem? (i := 9) rfl), fun _ h => absurd h List.not_mem_nil⟩⟩), lt_X8_isVillage_X8⟩)⟩) (by decide +kernel)
set_option maxRecDepth 20000 in
theorem gX8_isVillage_X8_fails : GoodIn wsX8_isVillage (wsV RX8 75 RX8 yX8_fails wsX8_fails) := goodIn_app (goodIn_sub (List.forall_mem_cons.mpr ⟨lq_X8_isVillage_0 (List.mem_of_getElem? (i := 3) rfl), List.forall_mem_cons.mpr ⟨lq_X8_isVillage_0 (List.mem_of_getElem? (i := 4) rfl), List.forall_mem_cons.mpr ⟨lq_X8_isVillage_0 (List.mem_of_getElem? (i := 5) rfl), List.forall_mem_cons.mpr ⟨lq_X8_isVillage_0 (List.mem_of_getElem? (i := 6) rfl), fun _ h => absurd h List.not_mem_nil⟩⟩⟩⟩) (by decide +kernel)) ggX8_isVillage_X8_fails
set_option maxRecDepth 20000 in
theorem ggX8_isVillage_X8_isNumber : GoodIn wsX8_isVillage wsX8_isNumber := goodIn_sub (List.forall_mem_cons.mpr ⟨lq_X8_isVillage_0 (List.mem_of_getElem? (i := 13) rfl), (List.forall_mem_append.mpr ⟨(show ∀ w ∈ ([.fieldLink RX8 62 "WinterWalkModel" "at" "I", .constantLong RX8 79 (48), .constantLong RX8 81 (57), .constantLong RX8 46 (2), .fieldLink RX8 83 "WinterWalkModel" "number" "I", .methodLink RX8 71 yX8_next, .instanceMethod yX8_next, .selects RX8 yX8_next yX8_next, .initialized RX8, .code yX8_next cX8_next 1 (some .int), .fieldLink RX8 58 "WinterWalkModel" "length" "I", .fieldLink RX8 25 "WinterWalkModel" "tape" "[B", .methodLink RX8 42 yX8_in, .static yX8_in, .code yX8_in cX8_in 6 (some .boolean), .methodLink RX8 75 yX8_fails, .instanceMethod yX8_fails, .selects RX8 yX8_fails yX8_fails, .code yX8_fails cX8_fails 3 (some .boolean), .fieldLink RX8 65 "WinterWalkModel" "fault" "I", .fieldLink RX8 68 "WinterWalkModel" "place" "I"] : List Cond), w ∈ wsX8_isVillage from List.forall_mem_cons.mpr ⟨lq_X8_isVillage_0 (List.mem_of_getElem? (i := 1) rfl), List.forall_mem_cons.mpr ⟨lq_X8_isVillage_0 (List.mem_of_getElem? (i := 14) rfl), List.forall_mem_cons.mpr ⟨lq_X8_isVillage_0 (List.mem_of_getElem? (i := 15) rfl), List.forall_mem_cons.mpr ⟨lq_X8_isVillage_0 (List.mem_of_getElem? (i := 16) rfl), List.forall_mem_cons.mpr ⟨lq_X8_isVillage_0 (List.mem_of_getElem? (i := 2) rfl), List.forall_mem_cons.mpr ⟨lq_X8_isVillage_0 (List.mem_of_getElem? (i := 17) rfl), List.forall_mem_cons.mpr ⟨lq_X8_isVillage_0 (List.mem_of_getElem? (i := 18) rfl), List.forall_mem_cons.mpr ⟨lq_X8_isVillage_0 (List.mem_of_getElem? (i := 19) rfl), List.forall_mem_cons.mpr ⟨lq_X8_isVillage_0 (List.mem_of_getElem? (i := 6) rfl), List.forall_mem_cons.mpr ⟨lq_X8_isVillage_0 (List.mem_of_getElem? (i := 20) rfl), List.forall_mem_cons.mpr ⟨lq_X8_isVillage_0 (List.mem_of_getElem? (i := 21) rfl), List.forall_mem_cons.mpr ⟨lq_X8_isVillage_0 (List.mem_of_getElem? (i := 22) rfl), List.forall_mem_cons.mpr ⟨lq_X8_isVillage_0 (List.mem_of_getElem? (i := 23) rfl), List.forall_mem_cons.mpr ⟨lq_X8_isVillage_1 (List.mem_of_getElem? (i := 0) rfl), List.forall_mem_cons.mpr ⟨lq_X8_isVillage_1 (List.mem_of_getElem? (i := 1) rfl), List.forall_mem_cons.mpr ⟨lq_X8_isVillage_0 (List.mem_of_getElem? (i := 3) rfl), List.forall_mem_cons.mpr ⟨lq_X8_isVillage_0 (List.mem_of_getElem? (i := 4) rfl), List.forall_mem_cons.mpr ⟨lq_X8_isVillage_0 (List.mem_of_getElem? (i := 5) rfl), List.forall_mem_cons.mpr ⟨lq_X8_isVillage_0 (List.mem_of_getElem? (i := 7) rfl), List.forall_mem_cons.mpr ⟨lq_X8_isVillage_0 (List.mem_of_getElem? (i := 8) rfl), List.forall_mem_cons.mpr ⟨lq_X8_isVillage_0 (List.mem_of_getElem? (i := 9) rfl), fun _ h => absurd h List.not_mem_nil⟩⟩⟩⟩⟩⟩⟩⟩⟩⟩⟩⟩⟩⟩⟩⟩⟩⟩⟩⟩⟩), lt_X8_isVillage_X8⟩)⟩) (by decide +kernel)
set_option maxRecDepth 20000 in
theorem gX8_isVillage_X8_isNumber : GoodIn wsX8_isVillage (wsV RX8 86 RX8 yX8_isNumber wsX8_isNumber) := goodIn_app (goodIn_sub (List.forall_mem_cons.mpr ⟨lq_X8_isVillage_0 (List.mem_of_getElem? (i := 10) rfl), List.forall_mem_cons.mpr ⟨lq_X8_isVillage_0 (List.mem_of_getElem? (i := 11) rfl), List.forall_mem_cons.mpr ⟨lq_X8_isVillage_0 (List.mem_of_getElem? (i := 12) rfl), List.forall_mem_cons.mpr ⟨lq_X8_isVillage_0 (List.mem_of_getElem? (i := 6) rfl), fun _ h => absurd h List.not_mem_nil⟩⟩⟩⟩) (by decide +kernel)) ggX8_isVillage_X8_isNumber
set_option maxRecDepth 20000 in
theorem ggX8_isVillage_X8_isSign : GoodIn wsX8_isVillage wsX8_isSign := goodIn_sub (List.forall_mem_cons.mpr ⟨lq_X8_isVillage_1 (List.mem_of_getElem? (i := 5) rfl), (List.forall_mem_append.mpr ⟨(show ∀ w ∈ ([.fieldLink RX8 62 "WinterWalkModel" "at" "I", .methodLink RX8 71 yX8_next, .instanceMethod yX8_next, .selects RX8 yX8_next yX8_next, .initialized RX8, .code yX8_next cX8_next 1 (some .int), .fieldLink RX8 58 "WinterWalkModel" "length" "I", .fieldLink RX8 25 "WinterWalkModel" "tape" "[B", .methodLink RX8 75 yX8_fails, .instanceMethod yX8_fails, .selects RX8 yX8_fails yX8_fails, .code yX8_fails cX8_fails 3 (some .boolean), .fieldLink RX8 65 "WinterWalkModel" "fault" "I", .fieldLink RX8 68 "WinterWalkModel" "place" "I"] : List Cond), w ∈ wsX8_isVillage from List.forall_mem_cons.mpr ⟨lq_X8_isVillage_0 (List.mem_of_getElem? (i := 1) rfl), List.forall_mem_cons.mpr ⟨lq_X8_isVillage_0 (List.mem_of_getElem? (i := 17) rfl), List.forall_mem_cons.mpr ⟨lq_X8_isVillage_0 (List.mem_of_getElem? (i := 18) rfl), List.forall_mem_cons.mpr ⟨lq_X8_isVillage_0 (List.mem_of_getElem? (i := 19) rfl), List.forall_mem_cons.mpr ⟨lq_X8_isVillage_0 (List.mem_of_getElem? (i := 6) rfl), List.forall_mem_cons.mpr ⟨lq_X8_isVillage_0 (List.mem_of_getElem? (i := 20) rfl), List.forall_mem_cons.mpr ⟨lq_X8_isVillage_0 (List.mem_of_getElem? (i := 21) rfl), List.forall_mem_cons.mpr ⟨lq_X8_isVillage_0 (List.mem_of_getElem? (i := 22) rfl), List.forall_mem_cons.mpr ⟨lq_X8_isVillage_0 (List.mem_of_getElem? (i := 3) rfl), List.forall_mem_cons.mpr ⟨lq_X8_isVillage_0 (List.mem_of_getElem? (i := 4) rfl), List.forall_mem_cons.mpr ⟨lq_X8_isVillage_0 (List.mem_of_getElem? (i := 5) rfl), List.forall_mem_cons.mpr ⟨lq_X8_isVillage_0 (List.mem_of_getElem? (i := 7) rfl), List.forall_mem_cons.mpr ⟨lq_X8_isVillage_0 (List.mem_of_getElem? (i := 8) rfl), List.forall_mem_cons.mpr ⟨lq_X8_isVillage_0 (List.mem_of_getElem? (i := 9) rfl), fun _ h => absurd h List.not_mem_nil⟩⟩⟩⟩⟩⟩⟩⟩⟩⟩⟩⟩⟩⟩), lt_X8_isVillage_X8⟩)⟩) (by decide +kernel)
set_option maxRecDepth 20000 in
theorem gX8_isVillage_X8_isSign : GoodIn wsX8_isVillage (wsV RX8 89 RX8 yX8_isSign wsX8_isSign) := goodIn_app (goodIn_sub (List.forall_mem_cons.mpr ⟨lq_X8_isVillage_1 (List.mem_of_getElem? (i := 2) rfl), List.forall_mem_cons.mpr ⟨lq_X8_isVillage_1 (List.mem_of_getElem? (i := 3) rfl), List.forall_mem_cons.mpr ⟨lq_X8_isVillage_1 (List.mem_of_getElem? (i := 4) rfl), List.forall_mem_cons.mpr ⟨lq_X8_isVillage_0 (List.mem_of_getElem? (i := 6) rfl), fun _ h => absurd h List.not_mem_nil⟩⟩⟩⟩) (by decide +kernel)) ggX8_isVillage_X8_isSign
theorem dX8_isVillage_0 : decode cX8_isVillage 0 = .ok (.aload_n 0, 1) := by decide +kernel
theorem dX8_isVillage_1 : decode cX8_isVillage 1 = .ok (.getfield 7, 3) := by decide +kernel
theorem dX8_isVillage_4 : decode cX8_isVillage 4 = .ok (.sipush 1597, 3) := by decide +kernel
theorem dX8_isVillage_7 : decode cX8_isVillage 7 = .ok (.iaload, 1) := by decide +kernel
theorem dX8_isVillage_8 : decode cX8_isVillage 8 = .ok (.istore_n 2, 1) := by decide +kernel
theorem dX8_isVillage_9 : decode cX8_isVillage 9 = .ok (.iload_n 2, 1) := by decide +kernel
theorem dX8_isVillage_10 : decode cX8_isVillage 10 = .ok (.bipush 8, 2) := by decide +kernel
theorem dX8_isVillage_12 : decode cX8_isVillage 12 = .ok (.if_icmp .ne 13, 3) := by decide +kernel
theorem dX8_isVillage_15 : decode cX8_isVillage 15 = .ok (.aload_n 0, 1) := by decide +kernel
theorem dX8_isVillage_16 : decode cX8_isVillage 16 = .ok (.iconst 3, 1) := by decide +kernel
theorem dX8_isVillage_17 : decode cX8_isVillage 17 = .ok (.aload_n 0, 1) := by decide +kernel
theorem dX8_isVillage_18 : decode cX8_isVillage 18 = .ok (.getfield 62, 3) := by decide +kernel
theorem dX8_isVillage_21 : decode cX8_isVillage 21 = .ok (.invokevirtual 75, 3) := by decide +kernel
theorem dX8_isVillage_24 : decode cX8_isVillage 24 = .ok (.ireturn, 1) := by decide +kernel
theorem dX8_isVillage_25 : decode cX8_isVillage 25 = .ok (.aload_n 0, 1) := by decide +kernel
theorem dX8_isVillage_26 : decode cX8_isVillage 26 = .ok (.dup, 1) := by decide +kernel
theorem dX8_isVillage_27 : decode cX8_isVillage 27 = .ok (.getfield 62, 3) := by decide +kernel
theorem dX8_isVillage_30 : decode cX8_isVillage 30 = .ok (.iconst 1, 1) := by decide +kernel
theorem dX8_isVillage_31 : decode cX8_isVillage 31 = .ok (.iadd, 1) := by decide +kernel
theorem dX8_isVillage_32 : decode cX8_isVillage 32 = .ok (.putfield 62, 3) := by decide +kernel
theorem dX8_isVillage_35 : decode cX8_isVillage 35 = .ok (.aload_n 0, 1) := by decide +kernel
theorem dX8_isVillage_36 : decode cX8_isVillage 36 = .ok (.iconst 0, 1) := by decide +kernel
theorem dX8_isVillage_37 : decode cX8_isVillage 37 = .ok (.bipush 9, 2) := by decide +kernel
theorem dX8_isVillage_39 : decode cX8_isVillage 39 = .ok (.invokevirtual 86, 3) := by decide +kernel
theorem dX8_isVillage_42 : decode cX8_isVillage 42 = .ok (.ifCond .ne 5, 3) := by decide +kernel
theorem dX8_isVillage_45 : decode cX8_isVillage 45 = .ok (.iconst 0, 1) := by decide +kernel
theorem dX8_isVillage_46 : decode cX8_isVillage 46 = .ok (.ireturn, 1) := by decide +kernel
theorem dX8_isVillage_47 : decode cX8_isVillage 47 = .ok (.aload_n 0, 1) := by decide +kernel
theorem dX8_isVillage_48 : decode cX8_isVillage 48 = .ok (.getfield 7, 3) := by decide +kernel
theorem dX8_isVillage_51 : decode cX8_isVillage 51 = .ok (.sipush 1600, 3) := by decide +kernel
theorem dX8_isVillage_54 : decode cX8_isVillage 54 = .ok (.iload_n 2, 1) := by decide +kernel
theorem dX8_isVillage_55 : decode cX8_isVillage 55 = .ok (.iadd, 1) := by decide +kernel
theorem dX8_isVillage_56 : decode cX8_isVillage 56 = .ok (.iload_n 1, 1) := by decide +kernel
theorem dX8_isVillage_57 : decode cX8_isVillage 57 = .ok (.bipush 103, 2) := by decide +kernel
theorem dX8_isVillage_59 : decode cX8_isVillage 59 = .ok (.if_icmp .ne 10, 3) := by decide +kernel
theorem dX8_isVillage_62 : decode cX8_isVillage 62 = .ok (.aload_n 0, 1) := by decide +kernel
theorem dX8_isVillage_63 : decode cX8_isVillage 63 = .ok (.getfield 83, 3) := by decide +kernel
theorem dX8_isVillage_66 : decode cX8_isVillage 66 = .ok (.goto 8, 3) := by decide +kernel
theorem dX8_isVillage_69 : decode cX8_isVillage 69 = .ok (.aload_n 0, 1) := by decide +kernel
theorem dX8_isVillage_70 : decode cX8_isVillage 70 = .ok (.getfield 83, 3) := by decide +kernel
theorem dX8_isVillage_73 : decode cX8_isVillage 73 = .ok (.ineg, 1) := by decide +kernel
theorem dX8_isVillage_74 : decode cX8_isVillage 74 = .ok (.iastore, 1) := by decide +kernel
theorem dX8_isVillage_75 : decode cX8_isVillage 75 = .ok (.aload_n 0, 1) := by decide +kernel
theorem dX8_isVillage_76 : decode cX8_isVillage 76 = .ok (.bipush 44, 2) := by decide +kernel
theorem dX8_isVillage_78 : decode cX8_isVillage 78 = .ok (.invokevirtual 89, 3) := by decide +kernel
theorem dX8_isVillage_81 : decode cX8_isVillage 81 = .ok (.ifCond .eq 13, 3) := by decide +kernel
theorem dX8_isVillage_84 : decode cX8_isVillage 84 = .ok (.aload_n 0, 1) := by decide +kernel
theorem dX8_isVillage_85 : decode cX8_isVillage 85 = .ok (.iconst 0, 1) := by decide +kernel
theorem dX8_isVillage_86 : decode cX8_isVillage 86 = .ok (.bipush 20, 2) := by decide +kernel
theorem dX8_isVillage_88 : decode cX8_isVillage 88 = .ok (.invokevirtual 86, 3) := by decide +kernel
theorem dX8_isVillage_91 : decode cX8_isVillage 91 = .ok (.ifCond .ne 5, 3) := by decide +kernel
theorem dX8_isVillage_94 : decode cX8_isVillage 94 = .ok (.iconst 0, 1) := by decide +kernel
theorem dX8_isVillage_95 : decode cX8_isVillage 95 = .ok (.ireturn, 1) := by decide +kernel
theorem dX8_isVillage_96 : decode cX8_isVillage 96 = .ok (.aload_n 0, 1) := by decide +kernel
theorem dX8_isVillage_97 : decode cX8_isVillage 97 = .ok (.getfield 7, 3) := by decide +kernel
theorem dX8_isVillage_100 : decode cX8_isVillage 100 = .ok (.sipush 1619, 3) := by decide +kernel
theorem dX8_isVillage_103 : decode cX8_isVillage 103 = .ok (.iload_n 2, 1) := by decide +kernel
theorem dX8_isVillage_104 : decode cX8_isVillage 104 = .ok (.iadd, 1) := by decide +kernel
theorem dX8_isVillage_105 : decode cX8_isVillage 105 = .ok (.aload_n 0, 1) := by decide +kernel
theorem dX8_isVillage_106 : decode cX8_isVillage 106 = .ok (.getfield 83, 3) := by decide +kernel
theorem dX8_isVillage_109 : decode cX8_isVillage 109 = .ok (.iastore, 1) := by decide +kernel
theorem dX8_isVillage_110 : decode cX8_isVillage 110 = .ok (.aload_n 0, 1) := by decide +kernel
theorem dX8_isVillage_111 : decode cX8_isVillage 111 = .ok (.getfield 7, 3) := by decide +kernel
theorem dX8_isVillage_114 : decode cX8_isVillage 114 = .ok (.sipush 1597, 3) := by decide +kernel
theorem dX8_isVillage_117 : decode cX8_isVillage 117 = .ok (.dup2, 1) := by decide +kernel
theorem dX8_isVillage_118 : decode cX8_isVillage 118 = .ok (.iaload, 1) := by decide +kernel
theorem dX8_isVillage_119 : decode cX8_isVillage 119 = .ok (.iconst 1, 1) := by decide +kernel
theorem dX8_isVillage_120 : decode cX8_isVillage 120 = .ok (.iadd, 1) := by decide +kernel
theorem dX8_isVillage_121 : decode cX8_isVillage 121 = .ok (.iastore, 1) := by decide +kernel
theorem dX8_isVillage_122 : decode cX8_isVillage 122 = .ok (.aload_n 0, 1) := by decide +kernel
theorem dX8_isVillage_123 : decode cX8_isVillage 123 = .ok (.bipush 59, 2) := by decide +kernel
theorem dX8_isVillage_125 : decode cX8_isVillage 125 = .ok (.invokevirtual 89, 3) := by decide +kernel
theorem dX8_isVillage_128 : decode cX8_isVillage 128 = .ok (.ireturn, 1) := by decide +kernel
theorem lq_X8_isRoad_0 {w : Cond} (h : w ∈ (wsX8_isRoad_r1 : List Cond)) : w ∈ wsX8_isRoad := List.mem_cons_of_mem _ (List.mem_append_left _ (List.mem_append_left _ (h)))
theorem lq_X8_isRoad_1 {w : Cond} (h : w ∈ (wsX8_isRoad_r2 : List Cond)) : w ∈ wsX8_isRoad := List.mem_cons_of_mem _ (List.mem_append_left _ (List.mem_append_right _ (h)))
theorem lt_X8_isRoad_X8 : ∀ w ∈ wsX80, w ∈ wsX8_isRoad := fun _ h => List.mem_cons_of_mem _ (List.mem_append_right _ (h))
set_option maxRecDepth 20000 in
theorem ggX8_isRoad_X8_fails : GoodIn wsX8_isRoad wsX8_fails := goodIn_sub (List.forall_mem_cons.mpr ⟨lq_X8_isRoad_0 (List.mem_of_getElem? (i := 7) rfl), (List.forall_mem_append.mpr ⟨(show ∀ w ∈ ([.fieldLink RX8 65 "WinterWalkModel" "fault" "I", .fieldLink RX8 68 "WinterWalkModel" "place" "I"] : List Cond), w ∈ wsX8_isRoad from List.forall_mem_cons.mpr ⟨lq_X8_isRoad_0 (List.mem_of_getElem? (i := 8) rfl), List.forall_mem_cons.mpr ⟨lq_X8_isRoad_0 (List.mem_of_getElem? (i := 9) rfl), fun _ h => absurd h List.not_mem_nil⟩⟩), lt_X8_isRoad_X8⟩)⟩) (by decide +kernel)
set_option maxRecDepth 20000 in
theorem gX8_isRoad_X8_fails : GoodIn wsX8_isRoad (wsV RX8 75 RX8 yX8_fails wsX8_fails) := goodIn_app (goodIn_sub (List.forall_mem_cons.mpr ⟨lq_X8_isRoad_0 (List.mem_of_getElem? (i := 3) rfl), List.forall_mem_cons.mpr ⟨lq_X8_isRoad_0 (List.mem_of_getElem? (i := 4) rfl), List.forall_mem_cons.mpr ⟨lq_X8_isRoad_0 (List.mem_of_getElem? (i := 5) rfl), List.forall_mem_cons.mpr ⟨lq_X8_isRoad_0 (List.mem_of_getElem? (i := 6) rfl), fun _ h => absurd h List.not_mem_nil⟩⟩⟩⟩) (by decide +kernel)) ggX8_isRoad_X8_fails
set_option maxRecDepth 20000 in
theorem ggX8_isRoad_X8_isNumber : GoodIn wsX8_isRoad wsX8_isNumber := goodIn_sub (List.forall_mem_cons.mpr ⟨lq_X8_isRoad_0 (List.mem_of_getElem? (i := 13) rfl), (List.forall_mem_append.mpr ⟨(show ∀ w ∈ ([.fieldLink RX8 62 "WinterWalkModel" "at" "I", .constantLong RX8 79 (48), .constantLong RX8 81 (57), .constantLong RX8 46 (2), .fieldLink RX8 83 "WinterWalkModel" "number" "I", .methodLink RX8 71 yX8_next, .instanceMethod yX8_next, .selects RX8 yX8_next yX8_next, .initialized RX8, .code yX8_next cX8_next 1 (some .int), .fieldLink RX8 58 "WinterWalkModel" "length" "I", .fieldLink RX8 25 "WinterWalkModel" "tape" "[B", .methodLink RX8 42 yX8_in, .static yX8_in, .code yX8_in cX8_in 6 (some .boolean), .methodLink RX8 75 yX8_fails, .instanceMethod yX8_fails, .selects RX8 yX8_fails yX8_fails, .code yX8_fails cX8_fails 3 (some .boolean), .fieldLink RX8 65 "WinterWalkModel" "fault" "I", .fieldLink RX8 68 "WinterWalkModel" "place" "I"] : List Cond), w ∈ wsX8_isRoad from List.forall_mem_cons.mpr ⟨lq_X8_isRoad_0 (List.mem_of_getElem? (i := 1) rfl), List.forall_mem_cons.mpr ⟨lq_X8_isRoad_0 (List.mem_of_getElem? (i := 14) rfl), List.forall_mem_cons.mpr ⟨lq_X8_isRoad_0 (List.mem_of_getElem? (i := 15) rfl), List.forall_mem_cons.mpr ⟨lq_X8_isRoad_0 (List.mem_of_getElem? (i := 16) rfl), List.forall_mem_cons.mpr ⟨lq_X8_isRoad_0 (List.mem_of_getElem? (i := 2) rfl), List.forall_mem_cons.mpr ⟨lq_X8_isRoad_0 (List.mem_of_getElem? (i := 17) rfl), List.forall_mem_cons.mpr ⟨lq_X8_isRoad_0 (List.mem_of_getElem? (i := 18) rfl), List.forall_mem_cons.mpr ⟨lq_X8_isRoad_0 (List.mem_of_getElem? (i := 19) rfl), List.forall_mem_cons.mpr ⟨lq_X8_isRoad_0 (List.mem_of_getElem? (i := 6) rfl), List.forall_mem_cons.mpr ⟨lq_X8_isRoad_0 (List.mem_of_getElem? (i := 20) rfl), List.forall_mem_cons.mpr ⟨lq_X8_isRoad_0 (List.mem_of_getElem? (i := 21) rfl), List.forall_mem_cons.mpr ⟨lq_X8_isRoad_0 (List.mem_of_getElem? (i := 22) rfl), List.forall_mem_cons.mpr ⟨lq_X8_isRoad_0 (List.mem_of_getElem? (i := 23) rfl), List.forall_mem_cons.mpr ⟨lq_X8_isRoad_1 (List.mem_of_getElem? (i := 0) rfl), List.forall_mem_cons.mpr ⟨lq_X8_isRoad_1 (List.mem_of_getElem? (i := 1) rfl), List.forall_mem_cons.mpr ⟨lq_X8_isRoad_0 (List.mem_of_getElem? (i := 3) rfl), List.forall_mem_cons.mpr ⟨lq_X8_isRoad_0 (List.mem_of_getElem? (i := 4) rfl), List.forall_mem_cons.mpr ⟨lq_X8_isRoad_0 (List.mem_of_getElem? (i := 5) rfl), List.forall_mem_cons.mpr ⟨lq_X8_isRoad_0 (List.mem_of_getElem? (i := 7) rfl), List.forall_mem_cons.mpr ⟨lq_X8_isRoad_0 (List.mem_of_getElem? (i := 8) rfl), List.forall_mem_cons.mpr ⟨lq_X8_isRoad_0 (List.mem_of_getElem? (i := 9) rfl), fun _ h => absurd h List.not_mem_nil⟩⟩⟩⟩⟩⟩⟩⟩⟩⟩⟩⟩⟩⟩⟩⟩⟩⟩⟩⟩⟩), lt_X8_isRoad_X8⟩)⟩) (by decide +kernel)
set_option maxRecDepth 20000 in
theorem gX8_isRoad_X8_isNumber : GoodIn wsX8_isRoad (wsV RX8 86 RX8 yX8_isNumber wsX8_isNumber) := goodIn_app (goodIn_sub (List.forall_mem_cons.mpr ⟨lq_X8_isRoad_0 (List.mem_of_getElem? (i := 10) rfl), List.forall_mem_cons.mpr ⟨lq_X8_isRoad_0 (List.mem_of_getElem? (i := 11) rfl), List.forall_mem_cons.mpr ⟨lq_X8_isRoad_0 (List.mem_of_getElem? (i := 12) rfl), List.forall_mem_cons.mpr ⟨lq_X8_isRoad_0 (List.mem_of_getElem? (i := 6) rfl), fun _ h => absurd h List.not_mem_nil⟩⟩⟩⟩) (by decide +kernel)) ggX8_isRoad_X8_isNumber
set_option maxRecDepth 20000 in
theorem ggX8_isRoad_X8_isSign : GoodIn wsX8_isRoad wsX8_isSign := goodIn_sub (List.forall_mem_cons.mpr ⟨lq_X8_isRoad_1 (List.mem_of_getElem? (i := 5) rfl), (List.forall_mem_append.mpr ⟨(show ∀ w ∈ ([.fieldLink RX8 62 "WinterWalkModel" "at" "I", .methodLink RX8 71 yX8_next, .instanceMethod yX8_next, .selects RX8 yX8_next yX8_next, .initialized RX8, .code yX8_next cX8_next 1 (some .int), .fieldLink RX8 58 "WinterWalkModel" "length" "I", .fieldLink RX8 25 "WinterWalkModel" "tape" "[B", .methodLink RX8 75 yX8_fails, .instanceMethod yX8_fails, .selects RX8 yX8_fails yX8_fails, .code yX8_fails cX8_fails 3 (some .boolean), .fieldLink RX8 65 "WinterWalkModel" "fault" "I", .fieldLink RX8 68 "WinterWalkModel" "place" "I"] : List Cond), w ∈ wsX8_isRoad from List.forall_mem_cons.mpr ⟨lq_X8_isRoad_0 (List.mem_of_getElem? (i := 1) rfl), List.forall_mem_cons.mpr ⟨lq_X8_isRoad_0 (List.mem_of_getElem? (i := 17) rfl), List.forall_mem_cons.mpr ⟨lq_X8_isRoad_0 (List.mem_of_getElem? (i := 18) rfl), List.forall_mem_cons.mpr ⟨lq_X8_isRoad_0 (List.mem_of_getElem? (i := 19) rfl), List.forall_mem_cons.mpr ⟨lq_X8_isRoad_0 (List.mem_of_getElem? (i := 6) rfl), List.forall_mem_cons.mpr ⟨lq_X8_isRoad_0 (List.mem_of_getElem? (i := 20) rfl), List.forall_mem_cons.mpr ⟨lq_X8_isRoad_0 (List.mem_of_getElem? (i := 21) rfl), List.forall_mem_cons.mpr ⟨lq_X8_isRoad_0 (List.mem_of_getElem? (i := 22) rfl), List.forall_mem_cons.mpr ⟨lq_X8_isRoad_0 (List.mem_of_getElem? (i := 3) rfl), List.forall_mem_cons.mpr ⟨lq_X8_isRoad_0 (List.mem_of_getElem? (i := 4) rfl), List.forall_mem_cons.mpr ⟨lq_X8_isRoad_0 (List.mem_of_getElem? (i := 5) rfl), List.forall_mem_cons.mpr ⟨lq_X8_isRoad_0 (List.mem_of_getElem? (i := 7) rfl), List.forall_mem_cons.mpr ⟨lq_X8_isRoad_0 (List.mem_of_getElem? (i := 8) rfl), List.forall_mem_cons.mpr ⟨lq_X8_isRoad_0 (List.mem_of_getElem? (i := 9) rfl), fun _ h => absurd h List.not_mem_nil⟩⟩⟩⟩⟩⟩⟩⟩⟩⟩⟩⟩⟩⟩), lt_X8_isRoad_X8⟩)⟩) (by decide +kernel)
set_option maxRecDepth 20000 in
theorem gX8_isRoad_X8_isSign : GoodIn wsX8_isRoad (wsV RX8 89 RX8 yX8_isSign wsX8_isSign) := goodIn_app (goodIn_sub (List.forall_mem_cons.mpr ⟨lq_X8_isRoad_1 (List.mem_of_getElem? (i := 2) rfl), List.forall_mem_cons.mpr ⟨lq_X8_isRoad_1 (List.mem_of_getElem? (i := 3) rfl), List.forall_mem_cons.mpr ⟨lq_X8_isRoad_1 (List.mem_of_getElem? (i := 4) rfl), List.forall_mem_cons.mpr ⟨lq_X8_isRoad_0 (List.mem_of_getElem? (i := 6) rfl), fun _ h => absurd h List.not_mem_nil⟩⟩⟩⟩) (by decide +kernel)) ggX8_isRoad_X8_isSign
set_option maxRecDepth 20000 in
theorem ggX8_isRoad_X8_has : GoodIn wsX8_isRoad wsX8_has := goodIn_sub (List.forall_mem_cons.mpr ⟨lq_X8_isRoad_1 (List.mem_of_getElem? (i := 8) rfl), (show ∀ w ∈ ([] : List Cond), w ∈ wsX8_isRoad from fun _ h => absurd h List.not_mem_nil)⟩) (by decide +kernel)
set_option maxRecDepth 20000 in
theorem gX8_isRoad_X8_has : GoodIn wsX8_isRoad (va_wsS RX8 93 yX8_has wsX8_has) := goodIn_app (goodIn_sub (List.forall_mem_cons.mpr ⟨lq_X8_isRoad_1 (List.mem_of_getElem? (i := 6) rfl), List.forall_mem_cons.mpr ⟨lq_X8_isRoad_1 (List.mem_of_getElem? (i := 7) rfl), List.forall_mem_cons.mpr ⟨lq_X8_isRoad_0 (List.mem_of_getElem? (i := 6) rfl), fun _ h => absurd h List.not_mem_nil⟩⟩⟩) (by decide +kernel)) ggX8_isRoad_X8_has
theorem dX8_isRoad_0 : decode cX8_isRoad 0 = .ok (.aload_n 0, 1) := by decide +kernel
theorem dX8_isRoad_1 : decode cX8_isRoad 1 = .ok (.getfield 7, 3) := by decide +kernel
theorem dX8_isRoad_4 : decode cX8_isRoad 4 = .ok (.sipush 1599, 3) := by decide +kernel
theorem dX8_isRoad_7 : decode cX8_isRoad 7 = .ok (.iaload, 1) := by decide +kernel
theorem dX8_isRoad_8 : decode cX8_isRoad 8 = .ok (.bipush 12, 2) := by decide +kernel
theorem dX8_isRoad_10 : decode cX8_isRoad 10 = .ok (.if_icmp .ne 13, 3) := by decide +kernel
theorem dX8_isRoad_13 : decode cX8_isRoad 13 = .ok (.aload_n 0, 1) := by decide +kernel
theorem dX8_isRoad_14 : decode cX8_isRoad 14 = .ok (.iconst 3, 1) := by decide +kernel
theorem dX8_isRoad_15 : decode cX8_isRoad 15 = .ok (.aload_n 0, 1) := by decide +kernel
theorem dX8_isRoad_16 : decode cX8_isRoad 16 = .ok (.getfield 62, 3) := by decide +kernel
theorem dX8_isRoad_19 : decode cX8_isRoad 19 = .ok (.invokevirtual 75, 3) := by decide +kernel
theorem dX8_isRoad_22 : decode cX8_isRoad 22 = .ok (.ireturn, 1) := by decide +kernel
theorem dX8_isRoad_23 : decode cX8_isRoad 23 = .ok (.aload_n 0, 1) := by decide +kernel
theorem dX8_isRoad_24 : decode cX8_isRoad 24 = .ok (.dup, 1) := by decide +kernel
theorem dX8_isRoad_25 : decode cX8_isRoad 25 = .ok (.getfield 62, 3) := by decide +kernel
theorem dX8_isRoad_28 : decode cX8_isRoad 28 = .ok (.iconst 1, 1) := by decide +kernel
theorem dX8_isRoad_29 : decode cX8_isRoad 29 = .ok (.iadd, 1) := by decide +kernel
theorem dX8_isRoad_30 : decode cX8_isRoad 30 = .ok (.putfield 62, 3) := by decide +kernel
theorem dX8_isRoad_33 : decode cX8_isRoad 33 = .ok (.aload_n 0, 1) := by decide +kernel
theorem dX8_isRoad_34 : decode cX8_isRoad 34 = .ok (.getfield 7, 3) := by decide +kernel
theorem dX8_isRoad_37 : decode cX8_isRoad 37 = .ok (.sipush 1597, 3) := by decide +kernel
theorem dX8_isRoad_40 : decode cX8_isRoad 40 = .ok (.iaload, 1) := by decide +kernel
theorem dX8_isRoad_41 : decode cX8_isRoad 41 = .ok (.iconst 1, 1) := by decide +kernel
theorem dX8_isRoad_42 : decode cX8_isRoad 42 = .ok (.isub, 1) := by decide +kernel
theorem dX8_isRoad_43 : decode cX8_isRoad 43 = .ok (.istore_n 1, 1) := by decide +kernel
theorem dX8_isRoad_44 : decode cX8_isRoad 44 = .ok (.aload_n 0, 1) := by decide +kernel
theorem dX8_isRoad_45 : decode cX8_isRoad 45 = .ok (.iconst 0, 1) := by decide +kernel
theorem dX8_isRoad_46 : decode cX8_isRoad 46 = .ok (.iload_n 1, 1) := by decide +kernel
theorem dX8_isRoad_47 : decode cX8_isRoad 47 = .ok (.invokevirtual 86, 3) := by decide +kernel
theorem dX8_isRoad_50 : decode cX8_isRoad 50 = .ok (.ifCond .ne 5, 3) := by decide +kernel
theorem dX8_isRoad_53 : decode cX8_isRoad 53 = .ok (.iconst 0, 1) := by decide +kernel
theorem dX8_isRoad_54 : decode cX8_isRoad 54 = .ok (.ireturn, 1) := by decide +kernel
theorem dX8_isRoad_55 : decode cX8_isRoad 55 = .ok (.aload_n 0, 1) := by decide +kernel
theorem dX8_isRoad_56 : decode cX8_isRoad 56 = .ok (.getfield 83, 3) := by decide +kernel
theorem dX8_isRoad_59 : decode cX8_isRoad 59 = .ok (.istore_n 2, 1) := by decide +kernel
theorem dX8_isRoad_60 : decode cX8_isRoad 60 = .ok (.aload_n 0, 1) := by decide +kernel
theorem dX8_isRoad_61 : decode cX8_isRoad 61 = .ok (.bipush 44, 2) := by decide +kernel
theorem dX8_isRoad_63 : decode cX8_isRoad 63 = .ok (.invokevirtual 89, 3) := by decide +kernel
theorem dX8_isRoad_66 : decode cX8_isRoad 66 = .ok (.ifCond .ne 5, 3) := by decide +kernel
theorem dX8_isRoad_69 : decode cX8_isRoad 69 = .ok (.iconst 0, 1) := by decide +kernel
theorem dX8_isRoad_70 : decode cX8_isRoad 70 = .ok (.ireturn, 1) := by decide +kernel
theorem dX8_isRoad_71 : decode cX8_isRoad 71 = .ok (.aload_n 0, 1) := by decide +kernel
theorem dX8_isRoad_72 : decode cX8_isRoad 72 = .ok (.getfield 62, 3) := by decide +kernel
theorem dX8_isRoad_75 : decode cX8_isRoad 75 = .ok (.istore_n 3, 1) := by decide +kernel
theorem dX8_isRoad_76 : decode cX8_isRoad 76 = .ok (.aload_n 0, 1) := by decide +kernel
theorem dX8_isRoad_77 : decode cX8_isRoad 77 = .ok (.iconst 0, 1) := by decide +kernel
theorem dX8_isRoad_78 : decode cX8_isRoad 78 = .ok (.iload_n 1, 1) := by decide +kernel
theorem dX8_isRoad_79 : decode cX8_isRoad 79 = .ok (.invokevirtual 86, 3) := by decide +kernel
theorem dX8_isRoad_82 : decode cX8_isRoad 82 = .ok (.ifCond .ne 5, 3) := by decide +kernel
theorem dX8_isRoad_85 : decode cX8_isRoad 85 = .ok (.iconst 0, 1) := by decide +kernel
theorem dX8_isRoad_86 : decode cX8_isRoad 86 = .ok (.ireturn, 1) := by decide +kernel
theorem dX8_isRoad_87 : decode cX8_isRoad 87 = .ok (.aload_n 0, 1) := by decide +kernel
theorem dX8_isRoad_88 : decode cX8_isRoad 88 = .ok (.getfield 83, 3) := by decide +kernel
theorem dX8_isRoad_91 : decode cX8_isRoad 91 = .ok (.istore 4, 2) := by decide +kernel
theorem dX8_isRoad_93 : decode cX8_isRoad 93 = .ok (.iload_n 2, 1) := by decide +kernel
theorem dX8_isRoad_94 : decode cX8_isRoad 94 = .ok (.iload 4, 2) := by decide +kernel
theorem dX8_isRoad_96 : decode cX8_isRoad 96 = .ok (.if_icmp .eq 21, 3) := by decide +kernel
theorem dX8_isRoad_99 : decode cX8_isRoad 99 = .ok (.aload_n 0, 1) := by decide +kernel
theorem dX8_isRoad_100 : decode cX8_isRoad 100 = .ok (.getfield 7, 3) := by decide +kernel
theorem dX8_isRoad_103 : decode cX8_isRoad 103 = .ok (.sipush 1608, 3) := by decide +kernel
theorem dX8_isRoad_106 : decode cX8_isRoad 106 = .ok (.iload_n 2, 1) := by decide +kernel
theorem dX8_isRoad_107 : decode cX8_isRoad 107 = .ok (.iadd, 1) := by decide +kernel
theorem dX8_isRoad_108 : decode cX8_isRoad 108 = .ok (.iaload, 1) := by decide +kernel
theorem dX8_isRoad_109 : decode cX8_isRoad 109 = .ok (.iload 4, 2) := by decide +kernel
theorem dX8_isRoad_111 : decode cX8_isRoad 111 = .ok (.invokestatic 93, 3) := by decide +kernel
theorem dX8_isRoad_114 : decode cX8_isRoad 114 = .ok (.ifCond .eq 10, 3) := by decide +kernel
theorem dX8_isRoad_117 : decode cX8_isRoad 117 = .ok (.aload_n 0, 1) := by decide +kernel
theorem dX8_isRoad_118 : decode cX8_isRoad 118 = .ok (.iconst 2, 1) := by decide +kernel
theorem dX8_isRoad_119 : decode cX8_isRoad 119 = .ok (.iload_n 3, 1) := by decide +kernel
theorem dX8_isRoad_120 : decode cX8_isRoad 120 = .ok (.invokevirtual 75, 3) := by decide +kernel
theorem dX8_isRoad_123 : decode cX8_isRoad 123 = .ok (.ireturn, 1) := by decide +kernel
theorem dX8_isRoad_124 : decode cX8_isRoad 124 = .ok (.aload_n 0, 1) := by decide +kernel
theorem dX8_isRoad_125 : decode cX8_isRoad 125 = .ok (.getfield 7, 3) := by decide +kernel
theorem dX8_isRoad_128 : decode cX8_isRoad 128 = .ok (.sipush 1608, 3) := by decide +kernel
theorem dX8_isRoad_131 : decode cX8_isRoad 131 = .ok (.iload_n 2, 1) := by decide +kernel
theorem dX8_isRoad_132 : decode cX8_isRoad 132 = .ok (.iadd, 1) := by decide +kernel
theorem dX8_isRoad_133 : decode cX8_isRoad 133 = .ok (.dup2, 1) := by decide +kernel
theorem dX8_isRoad_134 : decode cX8_isRoad 134 = .ok (.iaload, 1) := by decide +kernel
theorem dX8_isRoad_135 : decode cX8_isRoad 135 = .ok (.iconst 1, 1) := by decide +kernel
theorem dX8_isRoad_136 : decode cX8_isRoad 136 = .ok (.iload 4, 2) := by decide +kernel
theorem dX8_isRoad_138 : decode cX8_isRoad 138 = .ok (.ishl, 1) := by decide +kernel
theorem dX8_isRoad_139 : decode cX8_isRoad 139 = .ok (.ior, 1) := by decide +kernel
theorem dX8_isRoad_140 : decode cX8_isRoad 140 = .ok (.iastore, 1) := by decide +kernel
theorem dX8_isRoad_141 : decode cX8_isRoad 141 = .ok (.aload_n 0, 1) := by decide +kernel
theorem dX8_isRoad_142 : decode cX8_isRoad 142 = .ok (.getfield 7, 3) := by decide +kernel
theorem dX8_isRoad_145 : decode cX8_isRoad 145 = .ok (.sipush 1608, 3) := by decide +kernel
theorem dX8_isRoad_148 : decode cX8_isRoad 148 = .ok (.iload 4, 2) := by decide +kernel
theorem dX8_isRoad_150 : decode cX8_isRoad 150 = .ok (.iadd, 1) := by decide +kernel
theorem dX8_isRoad_151 : decode cX8_isRoad 151 = .ok (.dup2, 1) := by decide +kernel
theorem dX8_isRoad_152 : decode cX8_isRoad 152 = .ok (.iaload, 1) := by decide +kernel
theorem dX8_isRoad_153 : decode cX8_isRoad 153 = .ok (.iconst 1, 1) := by decide +kernel
theorem dX8_isRoad_154 : decode cX8_isRoad 154 = .ok (.iload_n 2, 1) := by decide +kernel
theorem dX8_isRoad_155 : decode cX8_isRoad 155 = .ok (.ishl, 1) := by decide +kernel
theorem dX8_isRoad_156 : decode cX8_isRoad 156 = .ok (.ior, 1) := by decide +kernel
theorem dX8_isRoad_157 : decode cX8_isRoad 157 = .ok (.iastore, 1) := by decide +kernel
theorem dX8_isRoad_158 : decode cX8_isRoad 158 = .ok (.aload_n 0, 1) := by decide +kernel
theorem dX8_isRoad_159 : decode cX8_isRoad 159 = .ok (.getfield 7, 3) := by decide +kernel
theorem dX8_isRoad_162 : decode cX8_isRoad 162 = .ok (.sipush 1599, 3) := by decide +kernel
theorem dX8_isRoad_165 : decode cX8_isRoad 165 = .ok (.dup2, 1) := by decide +kernel
theorem dX8_isRoad_166 : decode cX8_isRoad 166 = .ok (.iaload, 1) := by decide +kernel
theorem dX8_isRoad_167 : decode cX8_isRoad 167 = .ok (.iconst 1, 1) := by decide +kernel
theorem dX8_isRoad_168 : decode cX8_isRoad 168 = .ok (.iadd, 1) := by decide +kernel
theorem dX8_isRoad_169 : decode cX8_isRoad 169 = .ok (.iastore, 1) := by decide +kernel
theorem dX8_isRoad_170 : decode cX8_isRoad 170 = .ok (.aload_n 0, 1) := by decide +kernel
theorem dX8_isRoad_171 : decode cX8_isRoad 171 = .ok (.bipush 59, 2) := by decide +kernel
theorem dX8_isRoad_173 : decode cX8_isRoad 173 = .ok (.invokevirtual 89, 3) := by decide +kernel
theorem dX8_isRoad_176 : decode cX8_isRoad 176 = .ok (.ireturn, 1) := by decide +kernel
theorem lq_X8_isWalker_0 {w : Cond} (h : w ∈ (wsX8_isWalker_r1 : List Cond)) : w ∈ wsX8_isWalker := List.mem_cons_of_mem _ (List.mem_append_left _ (List.mem_append_left _ (h)))
theorem lq_X8_isWalker_1 {w : Cond} (h : w ∈ (wsX8_isWalker_r2 : List Cond)) : w ∈ wsX8_isWalker := List.mem_cons_of_mem _ (List.mem_append_left _ (List.mem_append_right _ (h)))
theorem lt_X8_isWalker_X8 : ∀ w ∈ wsX80, w ∈ wsX8_isWalker := fun _ h => List.mem_cons_of_mem _ (List.mem_append_right _ (h))
set_option maxRecDepth 20000 in
theorem ggX8_isWalker_X8_fails : GoodIn wsX8_isWalker wsX8_fails := goodIn_sub (List.forall_mem_cons.mpr ⟨lq_X8_isWalker_0 (List.mem_of_getElem? (i := 8) rfl), (List.forall_mem_append.mpr ⟨(show ∀ w ∈ ([.fieldLink RX8 65 "WinterWalkModel" "fault" "I", .fieldLink RX8 68 "WinterWalkModel" "place" "I"] : List Cond), w ∈ wsX8_isWalker from List.forall_mem_cons.mpr ⟨lq_X8_isWalker_0 (List.mem_of_getElem? (i := 9) rfl), List.forall_mem_cons.mpr ⟨lq_X8_isWalker_0 (List.mem_of_getElem? (i := 10) rfl), fun _ h => absurd h List.not_mem_nil⟩⟩), lt_X8_isWalker_X8⟩)⟩) (by decide +kernel)
set_option maxRecDepth 20000 in
theorem gX8_isWalker_X8_fails : GoodIn wsX8_isWalker (wsV RX8 75 RX8 yX8_fails wsX8_fails) := goodIn_app (goodIn_sub (List.forall_mem_cons.mpr ⟨lq_X8_isWalker_0 (List.mem_of_getElem? (i := 4) rfl), List.forall_mem_cons.mpr ⟨lq_X8_isWalker_0 (List.mem_of_getElem? (i := 5) rfl), List.forall_mem_cons.mpr ⟨lq_X8_isWalker_0 (List.mem_of_getElem? (i := 6) rfl), List.forall_mem_cons.mpr ⟨lq_X8_isWalker_0 (List.mem_of_getElem? (i := 7) rfl), fun _ h => absurd h List.not_mem_nil⟩⟩⟩⟩) (by decide +kernel)) ggX8_isWalker_X8_fails
set_option maxRecDepth 20000 in
theorem ggX8_isWalker_X8_isNumber : GoodIn wsX8_isWalker wsX8_isNumber := goodIn_sub (List.forall_mem_cons.mpr ⟨lq_X8_isWalker_0 (List.mem_of_getElem? (i := 14) rfl), (List.forall_mem_append.mpr ⟨(show ∀ w ∈ ([.fieldLink RX8 62 "WinterWalkModel" "at" "I", .constantLong RX8 79 (48), .constantLong RX8 81 (57), .constantLong RX8 46 (2), .fieldLink RX8 83 "WinterWalkModel" "number" "I", .methodLink RX8 71 yX8_next, .instanceMethod yX8_next, .selects RX8 yX8_next yX8_next, .initialized RX8, .code yX8_next cX8_next 1 (some .int), .fieldLink RX8 58 "WinterWalkModel" "length" "I", .fieldLink RX8 25 "WinterWalkModel" "tape" "[B", .methodLink RX8 42 yX8_in, .static yX8_in, .code yX8_in cX8_in 6 (some .boolean), .methodLink RX8 75 yX8_fails, .instanceMethod yX8_fails, .selects RX8 yX8_fails yX8_fails, .code yX8_fails cX8_fails 3 (some .boolean), .fieldLink RX8 65 "WinterWalkModel" "fault" "I", .fieldLink RX8 68 "WinterWalkModel" "place" "I"] : List Cond), w ∈ wsX8_isWalker from List.forall_mem_cons.mpr ⟨lq_X8_isWalker_0 (List.mem_of_getElem? (i := 1) rfl), List.forall_mem_cons.mpr ⟨lq_X8_isWalker_0 (List.mem_of_getElem? (i := 15) rfl), List.forall_mem_cons.mpr ⟨lq_X8_isWalker_0 (List.mem_of_getElem? (i := 16) rfl), List.forall_mem_cons.mpr ⟨lq_X8_isWalker_0 (List.mem_of_getElem? (i := 17) rfl), List.forall_mem_cons.mpr ⟨lq_X8_isWalker_0 (List.mem_of_getElem? (i := 2) rfl), List.forall_mem_cons.mpr ⟨lq_X8_isWalker_0 (List.mem_of_getElem? (i := 18) rfl), List.forall_mem_cons.mpr ⟨lq_X8_isWalker_0 (List.mem_of_getElem? (i := 19) rfl), List.forall_mem_cons.mpr ⟨lq_X8_isWalker_0 (List.mem_of_getElem? (i := 20) rfl), List.forall_mem_cons.mpr ⟨lq_X8_isWalker_0 (List.mem_of_getElem? (i := 7) rfl), List.forall_mem_cons.mpr ⟨lq_X8_isWalker_0 (List.mem_of_getElem? (i := 21) rfl), List.forall_mem_cons.mpr ⟨lq_X8_isWalker_0 (List.mem_of_getElem? (i := 22) rfl), List.forall_mem_cons.mpr ⟨lq_X8_isWalker_0 (List.mem_of_getElem? (i := 23) rfl), List.forall_mem_cons.mpr ⟨lq_X8_isWalker_1 (List.mem_of_getElem? (i := 0) rfl), List.forall_mem_cons.mpr ⟨lq_X8_isWalker_1 (List.mem_of_getElem? (i := 1) rfl), List.forall_mem_cons.mpr ⟨lq_X8_isWalker_1 (List.mem_of_getElem? (i := 2) rfl), List.forall_mem_cons.mpr ⟨lq_X8_isWalker_0 (List.mem_of_getElem? (i := 4) rfl), List.forall_mem_cons.mpr ⟨lq_X8_isWalker_0 (List.mem_of_getElem? (i := 5) rfl), List.forall_mem_cons.mpr ⟨lq_X8_isWalker_0 (List.mem_of_getElem? (i := 6) rfl), List.forall_mem_cons.mpr ⟨lq_X8_isWalker_0 (List.mem_of_getElem? (i := 8) rfl), List.forall_mem_cons.mpr ⟨lq_X8_isWalker_0 (List.mem_of_getElem? (i := 9) rfl), List.forall_mem_cons.mpr ⟨lq_X8_isWalker_0 (List.mem_of_getElem? (i := 10) rfl), fun _ h => absurd h List.not_mem_nil⟩⟩⟩⟩⟩⟩⟩⟩⟩⟩⟩⟩⟩⟩⟩⟩⟩⟩⟩⟩⟩), lt_X8_isWalker_X8⟩)⟩) (by decide +kernel)
set_option maxRecDepth 20000 in
theorem gX8_isWalker_X8_isNumber : GoodIn wsX8_isWalker (wsV RX8 86 RX8 yX8_isNumber wsX8_isNumber) := goodIn_app (goodIn_sub (List.forall_mem_cons.mpr ⟨lq_X8_isWalker_0 (List.mem_of_getElem? (i := 11) rfl), List.forall_mem_cons.mpr ⟨lq_X8_isWalker_0 (List.mem_of_getElem? (i := 12) rfl), List.forall_mem_cons.mpr ⟨lq_X8_isWalker_0 (List.mem_of_getElem? (i := 13) rfl), List.forall_mem_cons.mpr ⟨lq_X8_isWalker_0 (List.mem_of_getElem? (i := 7) rfl), fun _ h => absurd h List.not_mem_nil⟩⟩⟩⟩) (by decide +kernel)) ggX8_isWalker_X8_isNumber
set_option maxRecDepth 20000 in
theorem ggX8_isWalker_X8_sortOf : GoodIn wsX8_isWalker wsX8_sortOf := goodIn_sub (List.forall_mem_cons.mpr ⟨lq_X8_isWalker_1 (List.mem_of_getElem? (i := 5) rfl), (show ∀ w ∈ ([] : List Cond), w ∈ wsX8_isWalker from fun _ h => absurd h List.not_mem_nil)⟩) (by decide +kernel)
set_option maxRecDepth 20000 in
theorem gX8_isWalker_X8_sortOf : GoodIn wsX8_isWalker (va_wsS RX8 96 yX8_sortOf wsX8_sortOf) := goodIn_app (goodIn_sub (List.forall_mem_cons.mpr ⟨lq_X8_isWalker_1 (List.mem_of_getElem? (i := 3) rfl), List.forall_mem_cons.mpr ⟨lq_X8_isWalker_1 (List.mem_of_getElem? (i := 4) rfl), List.forall_mem_cons.mpr ⟨lq_X8_isWalker_0 (List.mem_of_getElem? (i := 7) rfl), fun _ h => absurd h List.not_mem_nil⟩⟩⟩) (by decide +kernel)) ggX8_isWalker_X8_sortOf
set_option maxRecDepth 20000 in
theorem ggX8_isWalker_X8_isSign : GoodIn wsX8_isWalker wsX8_isSign := goodIn_sub (List.forall_mem_cons.mpr ⟨lq_X8_isWalker_1 (List.mem_of_getElem? (i := 9) rfl), (List.forall_mem_append.mpr ⟨(show ∀ w ∈ ([.fieldLink RX8 62 "WinterWalkModel" "at" "I", .methodLink RX8 71 yX8_next, .instanceMethod yX8_next, .selects RX8 yX8_next yX8_next, .initialized RX8, .code yX8_next cX8_next 1 (some .int), .fieldLink RX8 58 "WinterWalkModel" "length" "I", .fieldLink RX8 25 "WinterWalkModel" "tape" "[B", .methodLink RX8 75 yX8_fails, .instanceMethod yX8_fails, .selects RX8 yX8_fails yX8_fails, .code yX8_fails cX8_fails 3 (some .boolean), .fieldLink RX8 65 "WinterWalkModel" "fault" "I", .fieldLink RX8 68 "WinterWalkModel" "place" "I"] : List Cond), w ∈ wsX8_isWalker from List.forall_mem_cons.mpr ⟨lq_X8_isWalker_0 (List.mem_of_getElem? (i := 1) rfl), List.forall_mem_cons.mpr ⟨lq_X8_isWalker_0 (List.mem_of_getElem? (i := 18) rfl), List.forall_mem_cons.mpr ⟨lq_X8_isWalker_0 (List.mem_of_getElem? (i := 19) rfl), List.forall_mem_cons.mpr ⟨lq_X8_isWalker_0 (List.mem_of_getElem? (i := 20) rfl), List.forall_mem_cons.mpr ⟨lq_X8_isWalker_0 (List.mem_of_getElem? (i := 7) rfl), List.forall_mem_cons.mpr ⟨lq_X8_isWalker_0 (List.mem_of_getElem? (i := 21) rfl), List.forall_mem_cons.mpr ⟨lq_X8_isWalker_0 (List.mem_of_getElem? (i := 22) rfl), List.forall_mem_cons.mpr ⟨lq_X8_isWalker_0 (List.mem_of_getElem? (i := 23) rfl), List.forall_mem_cons.mpr ⟨lq_X8_isWalker_0 (List.mem_of_getElem? (i := 4) rfl), List.forall_mem_cons.mpr ⟨lq_X8_isWalker_0 (List.mem_of_getElem? (i := 5) rfl), List.forall_mem_cons.mpr ⟨lq_X8_isWalker_0 (List.mem_of_getElem? (i := 6) rfl), List.forall_mem_cons.mpr ⟨lq_X8_isWalker_0 (List.mem_of_getElem? (i := 8) rfl), List.forall_mem_cons.mpr ⟨lq_X8_isWalker_0 (List.mem_of_getElem? (i := 9) rfl), List.forall_mem_cons.mpr ⟨lq_X8_isWalker_0 (List.mem_of_getElem? (i := 10) rfl), fun _ h => absurd h List.not_mem_nil⟩⟩⟩⟩⟩⟩⟩⟩⟩⟩⟩⟩⟩⟩), lt_X8_isWalker_X8⟩)⟩) (by decide +kernel)
set_option maxRecDepth 20000 in
theorem gX8_isWalker_X8_isSign : GoodIn wsX8_isWalker (wsV RX8 89 RX8 yX8_isSign wsX8_isSign) := goodIn_app (goodIn_sub (List.forall_mem_cons.mpr ⟨lq_X8_isWalker_1 (List.mem_of_getElem? (i := 6) rfl), List.forall_mem_cons.mpr ⟨lq_X8_isWalker_1 (List.mem_of_getElem? (i := 7) rfl), List.forall_mem_cons.mpr ⟨lq_X8_isWalker_1 (List.mem_of_getElem? (i := 8) rfl), List.forall_mem_cons.mpr ⟨lq_X8_isWalker_0 (List.mem_of_getElem? (i := 7) rfl), fun _ h => absurd h List.not_mem_nil⟩⟩⟩⟩) (by decide +kernel)) ggX8_isWalker_X8_isSign
theorem dX8_isWalker_0 : decode cX8_isWalker 0 = .ok (.aload_n 0, 1) := by decide +kernel
theorem dX8_isWalker_1 : decode cX8_isWalker 1 = .ok (.getfield 7, 3) := by decide +kernel
theorem dX8_isWalker_4 : decode cX8_isWalker 4 = .ok (.sipush 1598, 3) := by decide +kernel
theorem dX8_isWalker_7 : decode cX8_isWalker 7 = .ok (.iaload, 1) := by decide +kernel
theorem dX8_isWalker_8 : decode cX8_isWalker 8 = .ok (.istore_n 2, 1) := by decide +kernel
theorem dX8_isWalker_9 : decode cX8_isWalker 9 = .ok (.iload_n 2, 1) := by decide +kernel
theorem dX8_isWalker_10 : decode cX8_isWalker 10 = .ok (.iconst 3, 1) := by decide +kernel
theorem dX8_isWalker_11 : decode cX8_isWalker 11 = .ok (.if_icmp .ne 13, 3) := by decide +kernel
theorem dX8_isWalker_14 : decode cX8_isWalker 14 = .ok (.aload_n 0, 1) := by decide +kernel
theorem dX8_isWalker_15 : decode cX8_isWalker 15 = .ok (.iconst 3, 1) := by decide +kernel
theorem dX8_isWalker_16 : decode cX8_isWalker 16 = .ok (.aload_n 0, 1) := by decide +kernel
theorem dX8_isWalker_17 : decode cX8_isWalker 17 = .ok (.getfield 62, 3) := by decide +kernel
theorem dX8_isWalker_20 : decode cX8_isWalker 20 = .ok (.invokevirtual 75, 3) := by decide +kernel
theorem dX8_isWalker_23 : decode cX8_isWalker 23 = .ok (.ireturn, 1) := by decide +kernel
theorem dX8_isWalker_24 : decode cX8_isWalker 24 = .ok (.aload_n 0, 1) := by decide +kernel
theorem dX8_isWalker_25 : decode cX8_isWalker 25 = .ok (.dup, 1) := by decide +kernel
theorem dX8_isWalker_26 : decode cX8_isWalker 26 = .ok (.getfield 62, 3) := by decide +kernel
theorem dX8_isWalker_29 : decode cX8_isWalker 29 = .ok (.iconst 1, 1) := by decide +kernel
theorem dX8_isWalker_30 : decode cX8_isWalker 30 = .ok (.iadd, 1) := by decide +kernel
theorem dX8_isWalker_31 : decode cX8_isWalker 31 = .ok (.putfield 62, 3) := by decide +kernel
theorem dX8_isWalker_34 : decode cX8_isWalker 34 = .ok (.aload_n 0, 1) := by decide +kernel
theorem dX8_isWalker_35 : decode cX8_isWalker 35 = .ok (.iconst 0, 1) := by decide +kernel
theorem dX8_isWalker_36 : decode cX8_isWalker 36 = .ok (.aload_n 0, 1) := by decide +kernel
theorem dX8_isWalker_37 : decode cX8_isWalker 37 = .ok (.getfield 7, 3) := by decide +kernel
theorem dX8_isWalker_40 : decode cX8_isWalker 40 = .ok (.sipush 1597, 3) := by decide +kernel
theorem dX8_isWalker_43 : decode cX8_isWalker 43 = .ok (.iaload, 1) := by decide +kernel
theorem dX8_isWalker_44 : decode cX8_isWalker 44 = .ok (.iconst 1, 1) := by decide +kernel
theorem dX8_isWalker_45 : decode cX8_isWalker 45 = .ok (.isub, 1) := by decide +kernel
theorem dX8_isWalker_46 : decode cX8_isWalker 46 = .ok (.invokevirtual 86, 3) := by decide +kernel
theorem dX8_isWalker_49 : decode cX8_isWalker 49 = .ok (.ifCond .ne 5, 3) := by decide +kernel
theorem dX8_isWalker_52 : decode cX8_isWalker 52 = .ok (.iconst 0, 1) := by decide +kernel
theorem dX8_isWalker_53 : decode cX8_isWalker 53 = .ok (.ireturn, 1) := by decide +kernel
theorem dX8_isWalker_54 : decode cX8_isWalker 54 = .ok (.aload_n 0, 1) := by decide +kernel
theorem dX8_isWalker_55 : decode cX8_isWalker 55 = .ok (.getfield 7, 3) := by decide +kernel
theorem dX8_isWalker_58 : decode cX8_isWalker 58 = .ok (.sipush 1616, 3) := by decide +kernel
theorem dX8_isWalker_61 : decode cX8_isWalker 61 = .ok (.iload_n 2, 1) := by decide +kernel
theorem dX8_isWalker_62 : decode cX8_isWalker 62 = .ok (.iadd, 1) := by decide +kernel
theorem dX8_isWalker_63 : decode cX8_isWalker 63 = .ok (.iload_n 1, 1) := by decide +kernel
theorem dX8_isWalker_64 : decode cX8_isWalker 64 = .ok (.invokestatic 96, 3) := by decide +kernel
theorem dX8_isWalker_67 : decode cX8_isWalker 67 = .ok (.iastore, 1) := by decide +kernel
theorem dX8_isWalker_68 : decode cX8_isWalker 68 = .ok (.aload_n 0, 1) := by decide +kernel
theorem dX8_isWalker_69 : decode cX8_isWalker 69 = .ok (.getfield 7, 3) := by decide +kernel
theorem dX8_isWalker_72 : decode cX8_isWalker 72 = .ok (.sipush 1644, 3) := by decide +kernel
theorem dX8_isWalker_75 : decode cX8_isWalker 75 = .ok (.iload_n 2, 1) := by decide +kernel
theorem dX8_isWalker_76 : decode cX8_isWalker 76 = .ok (.iadd, 1) := by decide +kernel
theorem dX8_isWalker_77 : decode cX8_isWalker 77 = .ok (.aload_n 0, 1) := by decide +kernel
theorem dX8_isWalker_78 : decode cX8_isWalker 78 = .ok (.getfield 83, 3) := by decide +kernel
theorem dX8_isWalker_81 : decode cX8_isWalker 81 = .ok (.iastore, 1) := by decide +kernel
theorem dX8_isWalker_82 : decode cX8_isWalker 82 = .ok (.aload_n 0, 1) := by decide +kernel
theorem dX8_isWalker_83 : decode cX8_isWalker 83 = .ok (.getfield 7, 3) := by decide +kernel
theorem dX8_isWalker_86 : decode cX8_isWalker 86 = .ok (.sipush 1647, 3) := by decide +kernel
theorem dX8_isWalker_89 : decode cX8_isWalker 89 = .ok (.iload_n 2, 1) := by decide +kernel
theorem dX8_isWalker_90 : decode cX8_isWalker 90 = .ok (.iadd, 1) := by decide +kernel
theorem dX8_isWalker_91 : decode cX8_isWalker 91 = .ok (.ldc 99, 2) := by decide +kernel
theorem dX8_isWalker_93 : decode cX8_isWalker 93 = .ok (.iastore, 1) := by decide +kernel
theorem dX8_isWalker_94 : decode cX8_isWalker 94 = .ok (.aload_n 0, 1) := by decide +kernel
theorem dX8_isWalker_95 : decode cX8_isWalker 95 = .ok (.getfield 7, 3) := by decide +kernel
theorem dX8_isWalker_98 : decode cX8_isWalker 98 = .ok (.sipush 1598, 3) := by decide +kernel
theorem dX8_isWalker_101 : decode cX8_isWalker 101 = .ok (.dup2, 1) := by decide +kernel
theorem dX8_isWalker_102 : decode cX8_isWalker 102 = .ok (.iaload, 1) := by decide +kernel
theorem dX8_isWalker_103 : decode cX8_isWalker 103 = .ok (.iconst 1, 1) := by decide +kernel
theorem dX8_isWalker_104 : decode cX8_isWalker 104 = .ok (.iadd, 1) := by decide +kernel
theorem dX8_isWalker_105 : decode cX8_isWalker 105 = .ok (.iastore, 1) := by decide +kernel
theorem dX8_isWalker_106 : decode cX8_isWalker 106 = .ok (.aload_n 0, 1) := by decide +kernel
theorem dX8_isWalker_107 : decode cX8_isWalker 107 = .ok (.bipush 59, 2) := by decide +kernel
theorem dX8_isWalker_109 : decode cX8_isWalker 109 = .ok (.invokevirtual 89, 3) := by decide +kernel
theorem dX8_isWalker_112 : decode cX8_isWalker 112 = .ok (.ireturn, 1) := by decide +kernel
theorem lq_X8_isLand_0 {w : Cond} (h : w ∈ (wsX8_isLand_r1 : List Cond)) : w ∈ wsX8_isLand := List.mem_cons_of_mem _ (List.mem_append_left _ (List.mem_append_left _ (h)))
theorem lq_X8_isLand_1 {w : Cond} (h : w ∈ (wsX8_isLand_r2 : List Cond)) : w ∈ wsX8_isLand := List.mem_cons_of_mem _ (List.mem_append_left _ (List.mem_append_right _ (List.mem_append_left _ (h))))
theorem lq_X8_isLand_2 {w : Cond} (h : w ∈ (wsX8_isLand_r3 : List Cond)) : w ∈ wsX8_isLand := List.mem_cons_of_mem _ (List.mem_append_left _ (List.mem_append_right _ (List.mem_append_right _ (h))))
theorem lt_X8_isLand_X8 : ∀ w ∈ wsX80, w ∈ wsX8_isLand := fun _ h => List.mem_cons_of_mem _ (List.mem_append_right _ (h))
set_option maxRecDepth 20000 in
theorem ggX8_isLand_X8_isSign : GoodIn wsX8_isLand wsX8_isSign := goodIn_sub (List.forall_mem_cons.mpr ⟨lq_X8_isLand_0 (List.mem_of_getElem? (i := 8) rfl), (List.forall_mem_append.mpr ⟨(show ∀ w ∈ ([.fieldLink RX8 62 "WinterWalkModel" "at" "I", .methodLink RX8 71 yX8_next, .instanceMethod yX8_next, .selects RX8 yX8_next yX8_next, .initialized RX8, .code yX8_next cX8_next 1 (some .int), .fieldLink RX8 58 "WinterWalkModel" "length" "I", .fieldLink RX8 25 "WinterWalkModel" "tape" "[B", .methodLink RX8 75 yX8_fails, .instanceMethod yX8_fails, .selects RX8 yX8_fails yX8_fails, .code yX8_fails cX8_fails 3 (some .boolean), .fieldLink RX8 65 "WinterWalkModel" "fault" "I", .fieldLink RX8 68 "WinterWalkModel" "place" "I"] : List Cond), w ∈ wsX8_isLand from List.forall_mem_cons.mpr ⟨lq_X8_isLand_0 (List.mem_of_getElem? (i := 0) rfl), List.forall_mem_cons.mpr ⟨lq_X8_isLand_0 (List.mem_of_getElem? (i := 9) rfl), List.forall_mem_cons.mpr ⟨lq_X8_isLand_0 (List.mem_of_getElem? (i := 10) rfl), List.forall_mem_cons.mpr ⟨lq_X8_isLand_0 (List.mem_of_getElem? (i := 11) rfl), List.forall_mem_cons.mpr ⟨lq_X8_isLand_0 (List.mem_of_getElem? (i := 7) rfl), List.forall_mem_cons.mpr ⟨lq_X8_isLand_0 (List.mem_of_getElem? (i := 12) rfl), List.forall_mem_cons.mpr ⟨lq_X8_isLand_0 (List.mem_of_getElem? (i := 3) rfl), List.forall_mem_cons.mpr ⟨lq_X8_isLand_0 (List.mem_of_getElem? (i := 13) rfl), List.forall_mem_cons.mpr ⟨lq_X8_isLand_0 (List.mem_of_getElem? (i := 14) rfl), List.forall_mem_cons.mpr ⟨lq_X8_isLand_0 (List.mem_of_getElem? (i := 15) rfl), List.forall_mem_cons.mpr ⟨lq_X8_isLand_0 (List.mem_of_getElem? (i := 16) rfl), List.forall_mem_cons.mpr ⟨lq_X8_isLand_0 (List.mem_of_getElem? (i := 17) rfl), List.forall_mem_cons.mpr ⟨lq_X8_isLand_0 (List.mem_of_getElem? (i := 18) rfl), List.forall_mem_cons.mpr ⟨lq_X8_isLand_0 (List.mem_of_getElem? (i := 19) rfl), fun _ h => absurd h List.not_mem_nil⟩⟩⟩⟩⟩⟩⟩⟩⟩⟩⟩⟩⟩⟩), lt_X8_isLand_X8⟩)⟩) (by decide +kernel)
set_option maxRecDepth 20000 in
theorem gX8_isLand_X8_isSign : GoodIn wsX8_isLand (wsV RX8 89 RX8 yX8_isSign wsX8_isSign) := goodIn_app (goodIn_sub (List.forall_mem_cons.mpr ⟨lq_X8_isLand_0 (List.mem_of_getElem? (i := 4) rfl), List.forall_mem_cons.mpr ⟨lq_X8_isLand_0 (List.mem_of_getElem? (i := 5) rfl), List.forall_mem_cons.mpr ⟨lq_X8_isLand_0 (List.mem_of_getElem? (i := 6) rfl), List.forall_mem_cons.mpr ⟨lq_X8_isLand_0 (List.mem_of_getElem? (i := 7) rfl), fun _ h => absurd h List.not_mem_nil⟩⟩⟩⟩) (by decide +kernel)) ggX8_isLand_X8_isSign
set_option maxRecDepth 20000 in
theorem ggX8_isLand_X8_isNumber : GoodIn wsX8_isLand wsX8_isNumber := goodIn_sub (List.forall_mem_cons.mpr ⟨lq_X8_isLand_0 (List.mem_of_getElem? (i := 23) rfl), (List.forall_mem_append.mpr ⟨(show ∀ w ∈ ([.fieldLink RX8 62 "WinterWalkModel" "at" "I", .constantLong RX8 79 (48), .constantLong RX8 81 (57), .constantLong RX8 46 (2), .fieldLink RX8 83 "WinterWalkModel" "number" "I", .methodLink RX8 71 yX8_next, .instanceMethod yX8_next, .selects RX8 yX8_next yX8_next, .initialized RX8, .code yX8_next cX8_next 1 (some .int), .fieldLink RX8 58 "WinterWalkModel" "length" "I", .fieldLink RX8 25 "WinterWalkModel" "tape" "[B", .methodLink RX8 42 yX8_in, .static yX8_in, .code yX8_in cX8_in 6 (some .boolean), .methodLink RX8 75 yX8_fails, .instanceMethod yX8_fails, .selects RX8 yX8_fails yX8_fails, .code yX8_fails cX8_fails 3 (some .boolean), .fieldLink RX8 65 "WinterWalkModel" "fault" "I", .fieldLink RX8 68 "WinterWalkModel" "place" "I"] : List Cond), w ∈ wsX8_isLand from List.forall_mem_cons.mpr ⟨lq_X8_isLand_0 (List.mem_of_getElem? (i := 0) rfl), List.forall_mem_cons.mpr ⟨lq_X8_isLand_1 (List.mem_of_getElem? (i := 0) rfl), List.forall_mem_cons.mpr ⟨lq_X8_isLand_1 (List.mem_of_getElem? (i := 1) rfl), List.forall_mem_cons.mpr ⟨lq_X8_isLand_1 (List.mem_of_getElem? (i := 2) rfl), List.forall_mem_cons.mpr ⟨lq_X8_isLand_0 (List.mem_of_getElem? (i := 2) rfl), List.forall_mem_cons.mpr ⟨lq_X8_isLand_0 (List.mem_of_getElem? (i := 9) rfl), List.forall_mem_cons.mpr ⟨lq_X8_isLand_0 (List.mem_of_getElem? (i := 10) rfl), List.forall_mem_cons.mpr ⟨lq_X8_isLand_0 (List.mem_of_getElem? (i := 11) rfl), List.forall_mem_cons.mpr ⟨lq_X8_isLand_0 (List.mem_of_getElem? (i := 7) rfl), List.forall_mem_cons.mpr ⟨lq_X8_isLand_0 (List.mem_of_getElem? (i := 12) rfl), List.forall_mem_cons.mpr ⟨lq_X8_isLand_0 (List.mem_of_getElem? (i := 3) rfl), List.forall_mem_cons.mpr ⟨lq_X8_isLand_0 (List.mem_of_getElem? (i := 13) rfl), List.forall_mem_cons.mpr ⟨lq_X8_isLand_1 (List.mem_of_getElem? (i := 3) rfl), List.forall_mem_cons.mpr ⟨lq_X8_isLand_1 (List.mem_of_getElem? (i := 4) rfl), List.forall_mem_cons.mpr ⟨lq_X8_isLand_1 (List.mem_of_getElem? (i := 5) rfl), List.forall_mem_cons.mpr ⟨lq_X8_isLand_0 (List.mem_of_getElem? (i := 14) rfl), List.forall_mem_cons.mpr ⟨lq_X8_isLand_0 (List.mem_of_getElem? (i := 15) rfl), List.forall_mem_cons.mpr ⟨lq_X8_isLand_0 (List.mem_of_getElem? (i := 16) rfl), List.forall_mem_cons.mpr ⟨lq_X8_isLand_0 (List.mem_of_getElem? (i := 17) rfl), List.forall_mem_cons.mpr ⟨lq_X8_isLand_0 (List.mem_of_getElem? (i := 18) rfl), List.forall_mem_cons.mpr ⟨lq_X8_isLand_0 (List.mem_of_getElem? (i := 19) rfl), fun _ h => absurd h List.not_mem_nil⟩⟩⟩⟩⟩⟩⟩⟩⟩⟩⟩⟩⟩⟩⟩⟩⟩⟩⟩⟩⟩), lt_X8_isLand_X8⟩)⟩) (by decide +kernel)
set_option maxRecDepth 20000 in
theorem gX8_isLand_X8_isNumber : GoodIn wsX8_isLand (wsV RX8 86 RX8 yX8_isNumber wsX8_isNumber) := goodIn_app (goodIn_sub (List.forall_mem_cons.mpr ⟨lq_X8_isLand_0 (List.mem_of_getElem? (i := 20) rfl), List.forall_mem_cons.mpr ⟨lq_X8_isLand_0 (List.mem_of_getElem? (i := 21) rfl), List.forall_mem_cons.mpr ⟨lq_X8_isLand_0 (List.mem_of_getElem? (i := 22) rfl), List.forall_mem_cons.mpr ⟨lq_X8_isLand_0 (List.mem_of_getElem? (i := 7) rfl), fun _ h => absurd h List.not_mem_nil⟩⟩⟩⟩) (by decide +kernel)) ggX8_isLand_X8_isNumber
set_option maxRecDepth 20000 in
theorem ggX8_isLand_X8_next : GoodIn wsX8_isLand wsX8_next := goodIn_sub (List.forall_mem_cons.mpr ⟨lq_X8_isLand_0 (List.mem_of_getElem? (i := 12) rfl), (List.forall_mem_append.mpr ⟨(show ∀ w ∈ ([.fieldLink RX8 62 "WinterWalkModel" "at" "I", .fieldLink RX8 58 "WinterWalkModel" "length" "I", .fieldLink RX8 25 "WinterWalkModel" "tape" "[B"] : List Cond), w ∈ wsX8_isLand from List.forall_mem_cons.mpr ⟨lq_X8_isLand_0 (List.mem_of_getElem? (i := 0) rfl), List.forall_mem_cons.mpr ⟨lq_X8_isLand_0 (List.mem_of_getElem? (i := 3) rfl), List.forall_mem_cons.mpr ⟨lq_X8_isLand_0 (List.mem_of_getElem? (i := 13) rfl), fun _ h => absurd h List.not_mem_nil⟩⟩⟩), lt_X8_isLand_X8⟩)⟩) (by decide +kernel)
set_option maxRecDepth 20000 in
theorem gX8_isLand_X8_next : GoodIn wsX8_isLand (wsV RX8 71 RX8 yX8_next wsX8_next) := goodIn_app (goodIn_sub (List.forall_mem_cons.mpr ⟨lq_X8_isLand_0 (List.mem_of_getElem? (i := 9) rfl), List.forall_mem_cons.mpr ⟨lq_X8_isLand_0 (List.mem_of_getElem? (i := 10) rfl), List.forall_mem_cons.mpr ⟨lq_X8_isLand_0 (List.mem_of_getElem? (i := 11) rfl), List.forall_mem_cons.mpr ⟨lq_X8_isLand_0 (List.mem_of_getElem? (i := 7) rfl), fun _ h => absurd h List.not_mem_nil⟩⟩⟩⟩) (by decide +kernel)) ggX8_isLand_X8_next
set_option maxRecDepth 20000 in
theorem ggX8_isLand_X8_sortOf : GoodIn wsX8_isLand wsX8_sortOf := goodIn_sub (List.forall_mem_cons.mpr ⟨lq_X8_isLand_1 (List.mem_of_getElem? (i := 8) rfl), (show ∀ w ∈ ([] : List Cond), w ∈ wsX8_isLand from fun _ h => absurd h List.not_mem_nil)⟩) (by decide +kernel)
set_option maxRecDepth 20000 in
theorem gX8_isLand_X8_sortOf : GoodIn wsX8_isLand (va_wsS RX8 96 yX8_sortOf wsX8_sortOf) := goodIn_app (goodIn_sub (List.forall_mem_cons.mpr ⟨lq_X8_isLand_1 (List.mem_of_getElem? (i := 6) rfl), List.forall_mem_cons.mpr ⟨lq_X8_isLand_1 (List.mem_of_getElem? (i := 7) rfl), List.forall_mem_cons.mpr ⟨lq_X8_isLand_0 (List.mem_of_getElem? (i := 7) rfl), fun _ h => absurd h List.not_mem_nil⟩⟩⟩) (by decide +kernel)) ggX8_isLand_X8_sortOf
set_option maxRecDepth 20000 in
theorem ggX8_isLand_X8_isVillage : GoodIn wsX8_isLand wsX8_isVillage := goodIn_sub (List.forall_mem_cons.mpr ⟨lq_X8_isLand_1 (List.mem_of_getElem? (i := 12) rfl), (List.forall_mem_append.mpr ⟨(List.forall_mem_append.mpr ⟨(show ∀ w ∈ (wsX8_isVillage_r1 : List Cond), w ∈ wsX8_isLand from List.forall_mem_cons.mpr ⟨lq_X8_isLand_0 (List.mem_of_getElem? (i := 1) rfl), List.forall_mem_cons.mpr ⟨lq_X8_isLand_0 (List.mem_of_getElem? (i := 0) rfl), List.forall_mem_cons.mpr ⟨lq_X8_isLand_0 (List.mem_of_getElem? (i := 2) rfl), List.forall_mem_cons.mpr ⟨lq_X8_isLand_0 (List.mem_of_getElem? (i := 14) rfl), List.forall_mem_cons.mpr ⟨lq_X8_isLand_0 (List.mem_of_getElem? (i := 15) rfl), List.forall_mem_cons.mpr ⟨lq_X8_isLand_0 (List.mem_of_getElem? (i := 16) rfl), List.forall_mem_cons.mpr ⟨lq_X8_isLand_0 (List.mem_of_getElem? (i := 7) rfl), List.forall_mem_cons.mpr ⟨lq_X8_isLand_0 (List.mem_of_getElem? (i := 17) rfl), List.forall_mem_cons.mpr ⟨lq_X8_isLand_0 (List.mem_of_getElem? (i := 18) rfl), List.forall_mem_cons.mpr ⟨lq_X8_isLand_0 (List.mem_of_getElem? (i := 19) rfl), List.forall_mem_cons.mpr ⟨lq_X8_isLand_0 (List.mem_of_getElem? (i := 20) rfl), List.forall_mem_cons.mpr ⟨lq_X8_isLand_0 (List.mem_of_getElem? (i := 21) rfl), List.forall_mem_cons.mpr ⟨lq_X8_isLand_0 (List.mem_of_getElem? (i := 22) rfl), List.forall_mem_cons.mpr ⟨lq_X8_isLand_0 (List.mem_of_getElem? (i := 23) rfl), List.forall_mem_cons.mpr ⟨lq_X8_isLand_1 (List.mem_of_getElem? (i := 0) rfl), List.forall_mem_cons.mpr ⟨lq_X8_isLand_1 (List.mem_of_getElem? (i := 1) rfl), List.forall_mem_cons.mpr ⟨lq_X8_isLand_1 (List.mem_of_getElem? (i := 2) rfl), List.forall_mem_cons.mpr ⟨lq_X8_isLand_0 (List.mem_of_getElem? (i := 9) rfl), List.forall_mem_cons.mpr ⟨lq_X8_isLand_0 (List.mem_of_getElem? (i := 10) rfl), List.forall_mem_cons.mpr ⟨lq_X8_isLand_0 (List.mem_of_getElem? (i := 11) rfl), List.forall_mem_cons.mpr ⟨lq_X8_isLand_0 (List.mem_of_getElem? (i := 12) rfl), List.forall_mem_cons.mpr ⟨lq_X8_isLand_0 (List.mem_of_getElem? (i := 3) rfl), List.forall_mem_cons.mpr ⟨lq_X8_isLand_0 (List.mem_of_getElem? (i := 13) rfl), List.forall_mem_cons.mpr ⟨lq_X8_isLand_1 (List.mem_of_getElem? (i := 3) rfl), fun _ h => absurd h List.not_mem_nil⟩⟩⟩⟩⟩⟩⟩⟩⟩⟩⟩⟩⟩⟩⟩⟩⟩⟩⟩⟩⟩⟩⟩⟩), (show ∀ w ∈ (wsX8_isVillage_r2 : List Cond), w ∈ wsX8_isLand from List.forall_mem_cons.mpr ⟨lq_X8_isLand_1 (List.mem_of_getElem? (i := 4) rfl), List.forall_mem_cons.mpr ⟨lq_X8_isLand_1 (List.mem_of_getElem? (i := 5) rfl), List.forall_mem_cons.mpr ⟨lq_X8_isLand_0 (List.mem_of_getElem? (i := 4) rfl), List.forall_mem_cons.mpr ⟨lq_X8_isLand_0 (List.mem_of_getElem? (i := 5) rfl), List.forall_mem_cons.mpr ⟨lq_X8_isLand_0 (List.mem_of_getElem? (i := 6) rfl), List.forall_mem_cons.mpr ⟨lq_X8_isLand_0 (List.mem_of_getElem? (i := 8) rfl), fun _ h => absurd h List.not_mem_nil⟩⟩⟩⟩⟩⟩)⟩), lt_X8_isLand_X8⟩)⟩) (by decide +kernel)
set_option maxRecDepth 20000 in
theorem gX8_isLand_X8_isVillage : GoodIn wsX8_isLand (wsV RX8 100 RX8 yX8_isVillage wsX8_isVillage) := goodIn_app (goodIn_sub (List.forall_mem_cons.mpr ⟨lq_X8_isLand_1 (List.mem_of_getElem? (i := 9) rfl), List.forall_mem_cons.mpr ⟨lq_X8_isLand_1 (List.mem_of_getElem? (i := 10) rfl), List.forall_mem_cons.mpr ⟨lq_X8_isLand_1 (List.mem_of_getElem? (i := 11) rfl), List.forall_mem_cons.mpr ⟨lq_X8_isLand_0 (List.mem_of_getElem? (i := 7) rfl), fun _ h => absurd h List.not_mem_nil⟩⟩⟩⟩) (by decide +kernel)) ggX8_isLand_X8_isVillage
set_option maxRecDepth 20000 in
theorem ggX8_isLand_X8_isRoad : GoodIn wsX8_isLand wsX8_isRoad := goodIn_sub (List.forall_mem_cons.mpr ⟨lq_X8_isLand_1 (List.mem_of_getElem? (i := 16) rfl), (List.forall_mem_append.mpr ⟨(List.forall_mem_append.mpr ⟨(show ∀ w ∈ (wsX8_isRoad_r1 : List Cond), w ∈ wsX8_isLand from List.forall_mem_cons.mpr ⟨lq_X8_isLand_0 (List.mem_of_getElem? (i := 1) rfl), List.forall_mem_cons.mpr ⟨lq_X8_isLand_0 (List.mem_of_getElem? (i := 0) rfl), List.forall_mem_cons.mpr ⟨lq_X8_isLand_0 (List.mem_of_getElem? (i := 2) rfl), List.forall_mem_cons.mpr ⟨lq_X8_isLand_0 (List.mem_of_getElem? (i := 14) rfl), List.forall_mem_cons.mpr ⟨lq_X8_isLand_0 (List.mem_of_getElem? (i := 15) rfl), List.forall_mem_cons.mpr ⟨lq_X8_isLand_0 (List.mem_of_getElem? (i := 16) rfl), List.forall_mem_cons.mpr ⟨lq_X8_isLand_0 (List.mem_of_getElem? (i := 7) rfl), List.forall_mem_cons.mpr ⟨lq_X8_isLand_0 (List.mem_of_getElem? (i := 17) rfl), List.forall_mem_cons.mpr ⟨lq_X8_isLand_0 (List.mem_of_getElem? (i := 18) rfl), List.forall_mem_cons.mpr ⟨lq_X8_isLand_0 (List.mem_of_getElem? (i := 19) rfl), List.forall_mem_cons.mpr ⟨lq_X8_isLand_0 (List.mem_of_getElem? (i := 20) rfl), List.forall_mem_cons.mpr ⟨lq_X8_isLand_0 (List.mem_of_getElem? (i := 21) rfl), List.forall_mem_cons.mpr ⟨lq_X8_isLand_0 (List.mem_of_getElem? (i := 22) rfl), List.forall_mem_cons.mpr ⟨lq_X8_isLand_0 (List.mem_of_getElem? (i := 23) rfl), List.forall_mem_cons.mpr ⟨lq_X8_isLand_1 (List.mem_of_getElem? (i := 0) rfl), List.forall_mem_cons.mpr ⟨lq_X8_isLand_1 (List.mem_of_getElem? (i := 1) rfl), List.forall_mem_cons.mpr ⟨lq_X8_isLand_1 (List.mem_of_getElem? (i := 2) rfl), List.forall_mem_cons.mpr ⟨lq_X8_isLand_0 (List.mem_of_getElem? (i := 9) rfl), List.forall_mem_cons.mpr ⟨lq_X8_isLand_0 (List.mem_of_getElem? (i := 10) rfl), List.forall_mem_cons.mpr ⟨lq_X8_isLand_0 (List.mem_of_getElem? (i := 11) rfl), List.forall_mem_cons.mpr ⟨lq_X8_isLand_0 (List.mem_of_getElem? (i := 12) rfl), List.forall_mem_cons.mpr ⟨lq_X8_isLand_0 (List.mem_of_getElem? (i := 3) rfl), List.forall_mem_cons.mpr ⟨lq_X8_isLand_0 (List.mem_of_getElem? (i := 13) rfl), List.forall_mem_cons.mpr ⟨lq_X8_isLand_1 (List.mem_of_getElem? (i := 3) rfl), fun _ h => absurd h List.not_mem_nil⟩⟩⟩⟩⟩⟩⟩⟩⟩⟩⟩⟩⟩⟩⟩⟩⟩⟩⟩⟩⟩⟩⟩⟩), (show ∀ w ∈ (wsX8_isRoad_r2 : List Cond), w ∈ wsX8_isLand from List.forall_mem_cons.mpr ⟨lq_X8_isLand_1 (List.mem_of_getElem? (i := 4) rfl), List.forall_mem_cons.mpr ⟨lq_X8_isLand_1 (List.mem_of_getElem? (i := 5) rfl), List.forall_mem_cons.mpr ⟨lq_X8_isLand_0 (List.mem_of_getElem? (i := 4) rfl), List.forall_mem_cons.mpr ⟨lq_X8_isLand_0 (List.mem_of_getElem? (i := 5) rfl), List.forall_mem_cons.mpr ⟨lq_X8_isLand_0 (List.mem_of_getElem? (i := 6) rfl), List.forall_mem_cons.mpr ⟨lq_X8_isLand_0 (List.mem_of_getElem? (i := 8) rfl), List.forall_mem_cons.mpr ⟨lq_X8_isLand_1 (List.mem_of_getElem? (i := 17) rfl), List.forall_mem_cons.mpr ⟨lq_X8_isLand_1 (List.mem_of_getElem? (i := 18) rfl), List.forall_mem_cons.mpr ⟨lq_X8_isLand_1 (List.mem_of_getElem? (i := 19) rfl), fun _ h => absurd h List.not_mem_nil⟩⟩⟩⟩⟩⟩⟩⟩⟩)⟩), lt_X8_isLand_X8⟩)⟩) (by decide +kernel)
set_option maxRecDepth 20000 in
theorem gX8_isLand_X8_isRoad : GoodIn wsX8_isLand (wsV RX8 103 RX8 yX8_isRoad wsX8_isRoad) := goodIn_app (goodIn_sub (List.forall_mem_cons.mpr ⟨lq_X8_isLand_1 (List.mem_of_getElem? (i := 13) rfl), List.forall_mem_cons.mpr ⟨lq_X8_isLand_1 (List.mem_of_getElem? (i := 14) rfl), List.forall_mem_cons.mpr ⟨lq_X8_isLand_1 (List.mem_of_getElem? (i := 15) rfl), List.forall_mem_cons.mpr ⟨lq_X8_isLand_0 (List.mem_of_getElem? (i := 7) rfl), fun _ h => absurd h List.not_mem_nil⟩⟩⟩⟩) (by decide +kernel)) ggX8_isLand_X8_isRoad
set_option maxRecDepth 20000 in
theorem ggX8_isLand_X8_isWalker : GoodIn wsX8_isLand wsX8_isWalker := goodIn_sub (List.forall_mem_cons.mpr ⟨lq_X8_isLand_1 (List.mem_of_getElem? (i := 23) rfl), (List.forall_mem_append.mpr ⟨(List.forall_mem_append.mpr ⟨(show ∀ w ∈ (wsX8_isWalker_r1 : List Cond), w ∈ wsX8_isLand from List.forall_mem_cons.mpr ⟨lq_X8_isLand_0 (List.mem_of_getElem? (i := 1) rfl), List.forall_mem_cons.mpr ⟨lq_X8_isLand_0 (List.mem_of_getElem? (i := 0) rfl), List.forall_mem_cons.mpr ⟨lq_X8_isLand_0 (List.mem_of_getElem? (i := 2) rfl), List.forall_mem_cons.mpr ⟨lq_X8_isLand_2 (List.mem_of_getElem? (i := 0) rfl), List.forall_mem_cons.mpr ⟨lq_X8_isLand_0 (List.mem_of_getElem? (i := 14) rfl), List.forall_mem_cons.mpr ⟨lq_X8_isLand_0 (List.mem_of_getElem? (i := 15) rfl), List.forall_mem_cons.mpr ⟨lq_X8_isLand_0 (List.mem_of_getElem? (i := 16) rfl), List.forall_mem_cons.mpr ⟨lq_X8_isLand_0 (List.mem_of_getElem? (i := 7) rfl), List.forall_mem_cons.mpr ⟨lq_X8_isLand_0 (List.mem_of_getElem? (i := 17) rfl), List.forall_mem_cons.mpr ⟨lq_X8_isLand_0 (List.mem_of_getElem? (i := 18) rfl), List.forall_mem_cons.mpr ⟨lq_X8_isLand_0 (List.mem_of_getElem? (i := 19) rfl), List.forall_mem_cons.mpr ⟨lq_X8_isLand_0 (List.mem_of_getElem? (i := 20) rfl), List.forall_mem_cons.mpr ⟨lq_X8_isLand_0 (List.mem_of_getElem? (i := 21) rfl), List.forall_mem_cons.mpr ⟨lq_X8_isLand_0 (List.mem_of_getElem? (i := 22) rfl), List.forall_mem_cons.mpr ⟨lq_X8_isLand_0 (List.mem_of_getElem? (i := 23) rfl), List.forall_mem_cons.mpr ⟨lq_X8_isLand_1 (List.mem_of_getElem? (i := 0) rfl), List.forall_mem_cons.mpr ⟨lq_X8_isLand_1 (List.mem_of_getElem? (i := 1) rfl), List.forall_mem_cons.mpr ⟨lq_X8_isLand_1 (List.mem_of_getElem? (i := 2) rfl), List.forall_mem_cons.mpr ⟨lq_X8_isLand_0 (List.mem_of_getElem? (i := 9) rfl), List.forall_mem_cons.mpr ⟨lq_X8_isLand_0 (List.mem_of_getElem? (i := 10) rfl), List.forall_mem_cons.mpr ⟨lq_X8_isLand_0 (List.mem_of_getElem? (i := 11) rfl), List.forall_mem_cons.mpr ⟨lq_X8_isLand_0 (List.mem_of_getElem? (i := 12) rfl), List.forall_mem_cons.mpr ⟨lq_X8_isLand_0 (List.mem_of_getElem? (i := 3) rfl), List.forall_mem_cons.mpr ⟨lq_X8_isLand_0 (List.mem_of_getElem? (i := 13) rfl), fun _ h => absurd h List.not_mem_nil⟩⟩⟩⟩⟩⟩⟩⟩⟩⟩⟩⟩⟩⟩⟩⟩⟩⟩⟩⟩⟩⟩⟩⟩), (show ∀ w ∈ (wsX8_isWalker_r2 : List Cond), w ∈ wsX8_isLand from List.forall_mem_cons.mpr ⟨lq_X8_isLand_1 (List.mem_of_getElem? (i := 3) rfl), List.forall_mem_cons.mpr ⟨lq_X8_isLand_1 (List.mem_of_getElem? (i := 4) rfl), List.forall_mem_cons.mpr ⟨lq_X8_isLand_1 (List.mem_of_getElem? (i := 5) rfl), List.forall_mem_cons.mpr ⟨lq_X8_isLand_1 (List.mem_of_getElem? (i := 6) rfl), List.forall_mem_cons.mpr ⟨lq_X8_isLand_1 (List.mem_of_getElem? (i := 7) rfl), List.forall_mem_cons.mpr ⟨lq_X8_isLand_1 (List.mem_of_getElem? (i := 8) rfl), List.forall_mem_cons.mpr ⟨lq_X8_isLand_0 (List.mem_of_getElem? (i := 4) rfl), List.forall_mem_cons.mpr ⟨lq_X8_isLand_0 (List.mem_of_getElem? (i := 5) rfl), List.forall_mem_cons.mpr ⟨lq_X8_isLand_0 (List.mem_of_getElem? (i := 6) rfl), List.forall_mem_cons.mpr ⟨lq_X8_isLand_0 (List.mem_of_getElem? (i := 8) rfl), fun _ h => absurd h List.not_mem_nil⟩⟩⟩⟩⟩⟩⟩⟩⟩⟩)⟩), lt_X8_isLand_X8⟩)⟩) (by decide +kernel)
set_option maxRecDepth 20000 in
theorem gX8_isLand_X8_isWalker : GoodIn wsX8_isLand (wsV RX8 107 RX8 yX8_isWalker wsX8_isWalker) := goodIn_app (goodIn_sub (List.forall_mem_cons.mpr ⟨lq_X8_isLand_1 (List.mem_of_getElem? (i := 20) rfl), List.forall_mem_cons.mpr ⟨lq_X8_isLand_1 (List.mem_of_getElem? (i := 21) rfl), List.forall_mem_cons.mpr ⟨lq_X8_isLand_1 (List.mem_of_getElem? (i := 22) rfl), List.forall_mem_cons.mpr ⟨lq_X8_isLand_0 (List.mem_of_getElem? (i := 7) rfl), fun _ h => absurd h List.not_mem_nil⟩⟩⟩⟩) (by decide +kernel)) ggX8_isLand_X8_isWalker
set_option maxRecDepth 20000 in
theorem ggX8_isLand_X8_fails : GoodIn wsX8_isLand wsX8_fails := goodIn_sub (List.forall_mem_cons.mpr ⟨lq_X8_isLand_0 (List.mem_of_getElem? (i := 17) rfl), (List.forall_mem_append.mpr ⟨(show ∀ w ∈ ([.fieldLink RX8 65 "WinterWalkModel" "fault" "I", .fieldLink RX8 68 "WinterWalkModel" "place" "I"] : List Cond), w ∈ wsX8_isLand from List.forall_mem_cons.mpr ⟨lq_X8_isLand_0 (List.mem_of_getElem? (i := 18) rfl), List.forall_mem_cons.mpr ⟨lq_X8_isLand_0 (List.mem_of_getElem? (i := 19) rfl), fun _ h => absurd h List.not_mem_nil⟩⟩), lt_X8_isLand_X8⟩)⟩) (by decide +kernel)
set_option maxRecDepth 20000 in
theorem gX8_isLand_X8_fails : GoodIn wsX8_isLand (wsV RX8 75 RX8 yX8_fails wsX8_fails) := goodIn_app (goodIn_sub (List.forall_mem_cons.mpr ⟨lq_X8_isLand_0 (List.mem_of_getElem? (i := 14) rfl), List.forall_mem_cons.mpr ⟨lq_X8_isLand_0 (List.mem_of_getElem? (i := 15) rfl), List.forall_mem_cons.mpr ⟨lq_X8_isLand_0 (List.mem_of_getElem? (i := 16) rfl), List.forall_mem_cons.mpr ⟨lq_X8_isLand_0 (List.mem_of_getElem? (i := 7) rfl), fun _ h => absurd h List.not_mem_nil⟩⟩⟩⟩) (by decide +kernel)) ggX8_isLand_X8_fails
theorem dX8_isLand_0 : decode cX8_isLand 0 = .ok (.aload_n 0, 1) := by decide +kernel
theorem dX8_isLand_1 : decode cX8_isLand 1 = .ok (.iconst 0, 1) := by decide +kernel
theorem dX8_isLand_2 : decode cX8_isLand 2 = .ok (.putfield 62, 3) := by decide +kernel
theorem dX8_isLand_5 : decode cX8_isLand 5 = .ok (.iconst 0, 1) := by decide +kernel
theorem dX8_isLand_6 : decode cX8_isLand 6 = .ok (.istore_n 1, 1) := by decide +kernel
theorem dX8_isLand_7 : decode cX8_isLand 7 = .ok (.iload_n 1, 1) := by decide +kernel
theorem dX8_isLand_8 : decode cX8_isLand 8 = .ok (.bipush 57, 2) := by decide +kernel
theorem dX8_isLand_10 : decode cX8_isLand 10 = .ok (.if_icmp .ge 20, 3) := by decide +kernel
theorem dX8_isLand_13 : decode cX8_isLand 13 = .ok (.aload_n 0, 1) := by decide +kernel
theorem dX8_isLand_14 : decode cX8_isLand 14 = .ok (.getfield 7, 3) := by decide +kernel
theorem dX8_isLand_17 : decode cX8_isLand 17 = .ok (.sipush 1596, 3) := by decide +kernel
theorem dX8_isLand_20 : decode cX8_isLand 20 = .ok (.iload_n 1, 1) := by decide +kernel
theorem dX8_isLand_21 : decode cX8_isLand 21 = .ok (.iadd, 1) := by decide +kernel
theorem dX8_isLand_22 : decode cX8_isLand 22 = .ok (.iconst 0, 1) := by decide +kernel
theorem dX8_isLand_23 : decode cX8_isLand 23 = .ok (.iastore, 1) := by decide +kernel
theorem dX8_isLand_24 : decode cX8_isLand 24 = .ok (.iinc 1 1, 3) := by decide +kernel
theorem dX8_isLand_27 : decode cX8_isLand 27 = .ok (.goto (-20), 3) := by decide +kernel
theorem dX8_isLand_30 : decode cX8_isLand 30 = .ok (.aload_n 0, 1) := by decide +kernel
theorem dX8_isLand_31 : decode cX8_isLand 31 = .ok (.bipush 102, 2) := by decide +kernel
theorem dX8_isLand_33 : decode cX8_isLand 33 = .ok (.invokevirtual 89, 3) := by decide +kernel
theorem dX8_isLand_36 : decode cX8_isLand 36 = .ok (.ifCond .eq 13, 3) := by decide +kernel
theorem dX8_isLand_39 : decode cX8_isLand 39 = .ok (.aload_n 0, 1) := by decide +kernel
theorem dX8_isLand_40 : decode cX8_isLand 40 = .ok (.iconst 1, 1) := by decide +kernel
theorem dX8_isLand_41 : decode cX8_isLand 41 = .ok (.bipush 9, 2) := by decide +kernel
theorem dX8_isLand_43 : decode cX8_isLand 43 = .ok (.invokevirtual 86, 3) := by decide +kernel
theorem dX8_isLand_46 : decode cX8_isLand 46 = .ok (.ifCond .ne 5, 3) := by decide +kernel
theorem dX8_isLand_49 : decode cX8_isLand 49 = .ok (.iconst 0, 1) := by decide +kernel
theorem dX8_isLand_50 : decode cX8_isLand 50 = .ok (.ireturn, 1) := by decide +kernel
theorem dX8_isLand_51 : decode cX8_isLand 51 = .ok (.aload_n 0, 1) := by decide +kernel
theorem dX8_isLand_52 : decode cX8_isLand 52 = .ok (.getfield 7, 3) := by decide +kernel
theorem dX8_isLand_55 : decode cX8_isLand 55 = .ok (.sipush 1596, 3) := by decide +kernel
theorem dX8_isLand_58 : decode cX8_isLand 58 = .ok (.aload_n 0, 1) := by decide +kernel
theorem dX8_isLand_59 : decode cX8_isLand 59 = .ok (.getfield 83, 3) := by decide +kernel
theorem dX8_isLand_62 : decode cX8_isLand 62 = .ok (.iastore, 1) := by decide +kernel
theorem dX8_isLand_63 : decode cX8_isLand 63 = .ok (.aload_n 0, 1) := by decide +kernel
theorem dX8_isLand_64 : decode cX8_isLand 64 = .ok (.bipush 59, 2) := by decide +kernel
theorem dX8_isLand_66 : decode cX8_isLand 66 = .ok (.invokevirtual 89, 3) := by decide +kernel
theorem dX8_isLand_69 : decode cX8_isLand 69 = .ok (.ifCond .ne 5, 3) := by decide +kernel
theorem dX8_isLand_72 : decode cX8_isLand 72 = .ok (.iconst 0, 1) := by decide +kernel
theorem dX8_isLand_73 : decode cX8_isLand 73 = .ok (.ireturn, 1) := by decide +kernel
theorem dX8_isLand_74 : decode cX8_isLand 74 = .ok (.iconst 0, 1) := by decide +kernel
theorem dX8_isLand_75 : decode cX8_isLand 75 = .ok (.istore_n 1, 1) := by decide +kernel
theorem dX8_isLand_76 : decode cX8_isLand 76 = .ok (.aload_n 0, 1) := by decide +kernel
theorem dX8_isLand_77 : decode cX8_isLand 77 = .ok (.getfield 62, 3) := by decide +kernel
theorem dX8_isLand_80 : decode cX8_isLand 80 = .ok (.aload_n 0, 1) := by decide +kernel
theorem dX8_isLand_81 : decode cX8_isLand 81 = .ok (.getfield 58, 3) := by decide +kernel
theorem dX8_isLand_84 : decode cX8_isLand 84 = .ok (.if_icmp .lt 14, 3) := by decide +kernel
theorem dX8_isLand_87 : decode cX8_isLand 87 = .ok (.aload_n 0, 1) := by decide +kernel
theorem dX8_isLand_88 : decode cX8_isLand 88 = .ok (.getfield 7, 3) := by decide +kernel
theorem dX8_isLand_91 : decode cX8_isLand 91 = .ok (.sipush 1597, 3) := by decide +kernel
theorem dX8_isLand_94 : decode cX8_isLand 94 = .ok (.iaload, 1) := by decide +kernel
theorem dX8_isLand_95 : decode cX8_isLand 95 = .ok (.ifCond .ne 120, 3) := by decide +kernel
theorem dX8_isLand_98 : decode cX8_isLand 98 = .ok (.aload_n 0, 1) := by decide +kernel
theorem dX8_isLand_99 : decode cX8_isLand 99 = .ok (.invokevirtual 71, 3) := by decide +kernel
theorem dX8_isLand_102 : decode cX8_isLand 102 = .ok (.istore_n 2, 1) := by decide +kernel
theorem dX8_isLand_103 : decode cX8_isLand 103 = .ok (.iload_n 2, 1) := by decide +kernel
theorem dX8_isLand_104 : decode cX8_isLand 104 = .ok (.invokestatic 96, 3) := by decide +kernel
theorem dX8_isLand_107 : decode cX8_isLand 107 = .ok (.istore_n 3, 1) := by decide +kernel
theorem dX8_isLand_108 : decode cX8_isLand 108 = .ok (.iload_n 2, 1) := by decide +kernel
theorem dX8_isLand_109 : decode cX8_isLand 109 = .ok (.bipush 103, 2) := by decide +kernel
theorem dX8_isLand_111 : decode cX8_isLand 111 = .ok (.if_icmp .eq 9, 3) := by decide +kernel
theorem dX8_isLand_114 : decode cX8_isLand 114 = .ok (.iload_n 2, 1) := by decide +kernel
theorem dX8_isLand_115 : decode cX8_isLand 115 = .ok (.bipush 99, 2) := by decide +kernel
theorem dX8_isLand_117 : decode cX8_isLand 117 = .ok (.if_icmp .ne 17, 3) := by decide +kernel
theorem dX8_isLand_120 : decode cX8_isLand 120 = .ok (.iload_n 1, 1) := by decide +kernel
theorem dX8_isLand_121 : decode cX8_isLand 121 = .ok (.ifCond .ne 13, 3) := by decide +kernel
theorem dX8_isLand_124 : decode cX8_isLand 124 = .ok (.aload_n 0, 1) := by decide +kernel
theorem dX8_isLand_125 : decode cX8_isLand 125 = .ok (.iload_n 2, 1) := by decide +kernel
theorem dX8_isLand_126 : decode cX8_isLand 126 = .ok (.invokevirtual 100, 3) := by decide +kernel
theorem dX8_isLand_129 : decode cX8_isLand 129 = .ok (.istore 4, 2) := by decide +kernel
theorem dX8_isLand_131 : decode cX8_isLand 131 = .ok (.goto 74, 3) := by decide +kernel
theorem dX8_isLand_134 : decode cX8_isLand 134 = .ok (.iload_n 2, 1) := by decide +kernel
theorem dX8_isLand_135 : decode cX8_isLand 135 = .ok (.bipush 114, 2) := by decide +kernel
theorem dX8_isLand_137 : decode cX8_isLand 137 = .ok (.if_icmp .ne 30, 3) := by decide +kernel
theorem dX8_isLand_140 : decode cX8_isLand 140 = .ok (.iload_n 1, 1) := by decide +kernel
theorem dX8_isLand_141 : decode cX8_isLand 141 = .ok (.iconst 2, 1) := by decide +kernel
theorem dX8_isLand_142 : decode cX8_isLand 142 = .ok (.if_icmp .ge 25, 3) := by decide +kernel
theorem dX8_isLand_145 : decode cX8_isLand 145 = .ok (.aload_n 0, 1) := by decide +kernel
theorem dX8_isLand_146 : decode cX8_isLand 146 = .ok (.getfield 7, 3) := by decide +kernel
theorem dX8_isLand_149 : decode cX8_isLand 149 = .ok (.sipush 1597, 3) := by decide +kernel
theorem dX8_isLand_152 : decode cX8_isLand 152 = .ok (.iaload, 1) := by decide +kernel
theorem dX8_isLand_153 : decode cX8_isLand 153 = .ok (.ifCond .le 14, 3) := by decide +kernel
theorem dX8_isLand_156 : decode cX8_isLand 156 = .ok (.iconst 1, 1) := by decide +kernel
theorem dX8_isLand_157 : decode cX8_isLand 157 = .ok (.istore_n 1, 1) := by decide +kernel
theorem dX8_isLand_158 : decode cX8_isLand 158 = .ok (.aload_n 0, 1) := by decide +kernel
theorem dX8_isLand_159 : decode cX8_isLand 159 = .ok (.invokevirtual 103, 3) := by decide +kernel
theorem dX8_isLand_162 : decode cX8_isLand 162 = .ok (.istore 4, 2) := by decide +kernel
theorem dX8_isLand_164 : decode cX8_isLand 164 = .ok (.goto 41, 3) := by decide +kernel
theorem dX8_isLand_167 : decode cX8_isLand 167 = .ok (.iload_n 3, 1) := by decide +kernel
theorem dX8_isLand_168 : decode cX8_isLand 168 = .ok (.ifCond .le 26, 3) := by decide +kernel
theorem dX8_isLand_171 : decode cX8_isLand 171 = .ok (.aload_n 0, 1) := by decide +kernel
theorem dX8_isLand_172 : decode cX8_isLand 172 = .ok (.getfield 7, 3) := by decide +kernel
theorem dX8_isLand_175 : decode cX8_isLand 175 = .ok (.sipush 1597, 3) := by decide +kernel
theorem dX8_isLand_178 : decode cX8_isLand 178 = .ok (.iaload, 1) := by decide +kernel
theorem dX8_isLand_179 : decode cX8_isLand 179 = .ok (.ifCond .le 15, 3) := by decide +kernel
theorem dX8_isLand_182 : decode cX8_isLand 182 = .ok (.iconst 2, 1) := by decide +kernel
theorem dX8_isLand_183 : decode cX8_isLand 183 = .ok (.istore_n 1, 1) := by decide +kernel
theorem dX8_isLand_184 : decode cX8_isLand 184 = .ok (.aload_n 0, 1) := by decide +kernel
theorem dX8_isLand_185 : decode cX8_isLand 185 = .ok (.iload_n 2, 1) := by decide +kernel
theorem dX8_isLand_186 : decode cX8_isLand 186 = .ok (.invokevirtual 107, 3) := by decide +kernel
theorem dX8_isLand_189 : decode cX8_isLand 189 = .ok (.istore 4, 2) := by decide +kernel
theorem dX8_isLand_191 : decode cX8_isLand 191 = .ok (.goto 14, 3) := by decide +kernel
theorem dX8_isLand_194 : decode cX8_isLand 194 = .ok (.aload_n 0, 1) := by decide +kernel
theorem dX8_isLand_195 : decode cX8_isLand 195 = .ok (.iconst 1, 1) := by decide +kernel
theorem dX8_isLand_196 : decode cX8_isLand 196 = .ok (.aload_n 0, 1) := by decide +kernel
theorem dX8_isLand_197 : decode cX8_isLand 197 = .ok (.getfield 62, 3) := by decide +kernel
theorem dX8_isLand_200 : decode cX8_isLand 200 = .ok (.invokevirtual 75, 3) := by decide +kernel
theorem dX8_isLand_203 : decode cX8_isLand 203 = .ok (.istore 4, 2) := by decide +kernel
theorem dX8_isLand_205 : decode cX8_isLand 205 = .ok (.iload 4, 2) := by decide +kernel
theorem dX8_isLand_207 : decode cX8_isLand 207 = .ok (.ifCond .ne 5, 3) := by decide +kernel
theorem dX8_isLand_210 : decode cX8_isLand 210 = .ok (.iconst 0, 1) := by decide +kernel
theorem dX8_isLand_211 : decode cX8_isLand 211 = .ok (.ireturn, 1) := by decide +kernel
theorem dX8_isLand_212 : decode cX8_isLand 212 = .ok (.goto (-136), 3) := by decide +kernel
theorem dX8_isLand_215 : decode cX8_isLand 215 = .ok (.iconst 1, 1) := by decide +kernel
theorem dX8_isLand_216 : decode cX8_isLand 216 = .ok (.ireturn, 1) := by decide +kernel
theorem lq_X8_land_0 {w : Cond} (h : w ∈ (wsX8_land_r1 : List Cond)) : w ∈ wsX8_land := List.mem_cons_of_mem _ (List.mem_append_left _ (List.mem_append_left _ (h)))
theorem lq_X8_land_1 {w : Cond} (h : w ∈ (wsX8_land_r2 : List Cond)) : w ∈ wsX8_land := List.mem_cons_of_mem _ (List.mem_append_left _ (List.mem_append_right _ (List.mem_append_left _ (h))))
theorem lq_X8_land_2 {w : Cond} (h : w ∈ (wsX8_land_r3 : List Cond)) : w ∈ wsX8_land := List.mem_cons_of_mem _ (List.mem_append_left _ (List.mem_append_right _ (List.mem_append_right _ (h))))
theorem lt_X8_land_X8 : ∀ w ∈ wsX80, w ∈ wsX8_land := fun _ h => List.mem_cons_of_mem _ (List.mem_append_right _ (h))
set_option maxRecDepth 20000 in
theorem ggX8_land_X8_isLand : GoodIn wsX8_land wsX8_isLand := goodIn_sub (List.forall_mem_cons.mpr ⟨lq_X8_land_0 (List.mem_of_getElem? (i := 9) rfl), (List.forall_mem_append.mpr ⟨(List.forall_mem_append.mpr ⟨(show ∀ w ∈ (wsX8_isLand_r1 : List Cond), w ∈ wsX8_land from List.forall_mem_cons.mpr ⟨lq_X8_land_0 (List.mem_of_getElem? (i := 10) rfl), List.forall_mem_cons.mpr ⟨lq_X8_land_0 (List.mem_of_getElem? (i := 4) rfl), List.forall_mem_cons.mpr ⟨lq_X8_land_0 (List.mem_of_getElem? (i := 11) rfl), List.forall_mem_cons.mpr ⟨lq_X8_land_0 (List.mem_of_getElem? (i := 0) rfl), List.forall_mem_cons.mpr ⟨lq_X8_land_0 (List.mem_of_getElem? (i := 12) rfl), List.forall_mem_cons.mpr ⟨lq_X8_land_0 (List.mem_of_getElem? (i := 13) rfl), List.forall_mem_cons.mpr ⟨lq_X8_land_0 (List.mem_of_getElem? (i := 14) rfl), List.forall_mem_cons.mpr ⟨lq_X8_land_0 (List.mem_of_getElem? (i := 8) rfl), List.forall_mem_cons.mpr ⟨lq_X8_land_0 (List.mem_of_getElem? (i := 15) rfl), List.forall_mem_cons.mpr ⟨lq_X8_land_0 (List.mem_of_getElem? (i := 16) rfl), List.forall_mem_cons.mpr ⟨lq_X8_land_0 (List.mem_of_getElem? (i := 17) rfl), List.forall_mem_cons.mpr ⟨lq_X8_land_0 (List.mem_of_getElem? (i := 18) rfl), List.forall_mem_cons.mpr ⟨lq_X8_land_0 (List.mem_of_getElem? (i := 19) rfl), List.forall_mem_cons.mpr ⟨lq_X8_land_0 (List.mem_of_getElem? (i := 20) rfl), List.forall_mem_cons.mpr ⟨lq_X8_land_0 (List.mem_of_getElem? (i := 21) rfl), List.forall_mem_cons.mpr ⟨lq_X8_land_0 (List.mem_of_getElem? (i := 22) rfl), List.forall_mem_cons.mpr ⟨lq_X8_land_0 (List.mem_of_getElem? (i := 23) rfl), List.forall_mem_cons.mpr ⟨lq_X8_land_1 (List.mem_of_getElem? (i := 0) rfl), List.forall_mem_cons.mpr ⟨lq_X8_land_1 (List.mem_of_getElem? (i := 1) rfl), List.forall_mem_cons.mpr ⟨lq_X8_land_0 (List.mem_of_getElem? (i := 2) rfl), List.forall_mem_cons.mpr ⟨lq_X8_land_1 (List.mem_of_getElem? (i := 2) rfl), List.forall_mem_cons.mpr ⟨lq_X8_land_1 (List.mem_of_getElem? (i := 3) rfl), List.forall_mem_cons.mpr ⟨lq_X8_land_1 (List.mem_of_getElem? (i := 4) rfl), List.forall_mem_cons.mpr ⟨lq_X8_land_1 (List.mem_of_getElem? (i := 5) rfl), fun _ h => absurd h List.not_mem_nil⟩⟩⟩⟩⟩⟩⟩⟩⟩⟩⟩⟩⟩⟩⟩⟩⟩⟩⟩⟩⟩⟩⟩⟩), (List.forall_mem_append.mpr ⟨(show ∀ w ∈ (wsX8_isLand_r2 : List Cond), w ∈ wsX8_land from List.forall_mem_cons.mpr ⟨lq_X8_land_1 (List.mem_of_getElem? (i := 6) rfl), List.forall_mem_cons.mpr ⟨lq_X8_land_1 (List.mem_of_getElem? (i := 7) rfl), List.forall_mem_cons.mpr ⟨lq_X8_land_1 (List.mem_of_getElem? (i := 8) rfl), List.forall_mem_cons.mpr ⟨lq_X8_land_1 (List.mem_of_getElem? (i := 9) rfl), List.forall_mem_cons.mpr ⟨lq_X8_land_1 (List.mem_of_getElem? (i := 10) rfl), List.forall_mem_cons.mpr ⟨lq_X8_land_1 (List.mem_of_getElem? (i := 11) rfl), List.forall_mem_cons.mpr ⟨lq_X8_land_1 (List.mem_of_getElem? (i := 12) rfl), List.forall_mem_cons.mpr ⟨lq_X8_land_1 (List.mem_of_getElem? (i := 13) rfl), List.forall_mem_cons.mpr ⟨lq_X8_land_1 (List.mem_of_getElem? (i := 14) rfl), List.forall_mem_cons.mpr ⟨lq_X8_land_1 (List.mem_of_getElem? (i := 15) rfl), List.forall_mem_cons.mpr ⟨lq_X8_land_1 (List.mem_of_getElem? (i := 16) rfl), List.forall_mem_cons.mpr ⟨lq_X8_land_1 (List.mem_of_getElem? (i := 17) rfl), List.forall_mem_cons.mpr ⟨lq_X8_land_1 (List.mem_of_getElem? (i := 18) rfl), List.forall_mem_cons.mpr ⟨lq_X8_land_1 (List.mem_of_getElem? (i := 19) rfl), List.forall_mem_cons.mpr ⟨lq_X8_land_1 (List.mem_of_getElem? (i := 20) rfl), List.forall_mem_cons.mpr ⟨lq_X8_land_1 (List.mem_of_getElem? (i := 21) rfl), List.forall_mem_cons.mpr ⟨lq_X8_land_1 (List.mem_of_getElem? (i := 22) rfl), List.forall_mem_cons.mpr ⟨lq_X8_land_1 (List.mem_of_getElem? (i := 23) rfl), List.forall_mem_cons.mpr ⟨lq_X8_land_2 (List.mem_of_getElem? (i := 0) rfl), List.forall_mem_cons.mpr ⟨lq_X8_land_2 (List.mem_of_getElem? (i := 1) rfl), List.forall_mem_cons.mpr ⟨lq_X8_land_2 (List.mem_of_getElem? (i := 2) rfl), List.forall_mem_cons.mpr ⟨lq_X8_land_2 (List.mem_of_getElem? (i := 3) rfl), List.forall_mem_cons.mpr ⟨lq_X8_land_2 (List.mem_of_getElem? (i := 4) rfl), List.forall_mem_cons.mpr ⟨lq_X8_land_2 (List.mem_of_getElem? (i := 5) rfl), fun _ h => absurd h List.not_mem_nil⟩⟩⟩⟩⟩⟩⟩⟩⟩⟩⟩⟩⟩⟩⟩⟩⟩⟩⟩⟩⟩⟩⟩⟩), (show ∀ w ∈ (wsX8_isLand_r3 : List Cond), w ∈ wsX8_land from List.forall_mem_cons.mpr ⟨lq_X8_land_2 (List.mem_of_getElem? (i := 6) rfl), fun _ h => absurd h List.not_mem_nil⟩)⟩)⟩), lt_X8_land_X8⟩)⟩) (by decide +kernel)
set_option maxRecDepth 20000 in
theorem gX8_land_X8_isLand : GoodIn wsX8_land (wsV RX8 110 RX8 yX8_isLand wsX8_isLand) := goodIn_app (goodIn_sub (List.forall_mem_cons.mpr ⟨lq_X8_land_0 (List.mem_of_getElem? (i := 5) rfl), List.forall_mem_cons.mpr ⟨lq_X8_land_0 (List.mem_of_getElem? (i := 6) rfl), List.forall_mem_cons.mpr ⟨lq_X8_land_0 (List.mem_of_getElem? (i := 7) rfl), List.forall_mem_cons.mpr ⟨lq_X8_land_0 (List.mem_of_getElem? (i := 8) rfl), fun _ h => absurd h List.not_mem_nil⟩⟩⟩⟩) (by decide +kernel)) ggX8_land_X8_isLand
set_option maxRecDepth 20000 in
theorem ggX8_land_X8_copies : GoodIn wsX8_land wsX8_copies := goodIn_sub (List.forall_mem_cons.mpr ⟨lq_X8_land_2 (List.mem_of_getElem? (i := 10) rfl), (List.forall_mem_append.mpr ⟨(show ∀ w ∈ ([.fieldLink RX8 7 "WinterWalkModel" "slot" "[I"] : List Cond), w ∈ wsX8_land from List.forall_mem_cons.mpr ⟨lq_X8_land_0 (List.mem_of_getElem? (i := 4) rfl), fun _ h => absurd h List.not_mem_nil⟩), lt_X8_land_X8⟩)⟩) (by decide +kernel)
set_option maxRecDepth 20000 in
theorem gX8_land_X8_copies : GoodIn wsX8_land (wsV RX8 114 RX8 yX8_copies wsX8_copies) := goodIn_app (goodIn_sub (List.forall_mem_cons.mpr ⟨lq_X8_land_2 (List.mem_of_getElem? (i := 7) rfl), List.forall_mem_cons.mpr ⟨lq_X8_land_2 (List.mem_of_getElem? (i := 8) rfl), List.forall_mem_cons.mpr ⟨lq_X8_land_2 (List.mem_of_getElem? (i := 9) rfl), List.forall_mem_cons.mpr ⟨lq_X8_land_0 (List.mem_of_getElem? (i := 8) rfl), fun _ h => absurd h List.not_mem_nil⟩⟩⟩⟩) (by decide +kernel)) ggX8_land_X8_copies
theorem dX8_land_0 : decode cX8_land 0 = .ok (.aload_n 0, 1) := by decide +kernel
