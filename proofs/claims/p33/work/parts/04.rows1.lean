theorem dX2_landBehindYear_1 : decode cX2_landBehindYear 1 = .ok (.getfield 12, 3) := by decide +kernel
theorem dX2_landBehindYear_4 : decode cX2_landBehindYear 4 = .ok (.aload_n 0, 1) := by decide +kernel
theorem dX2_landBehindYear_5 : decode cX2_landBehindYear 5 = .ok (.getfield 18, 3) := by decide +kernel
theorem dX2_landBehindYear_8 : decode cX2_landBehindYear 8 = .ok (.invokevirtual 21, 3) := by decide +kernel
theorem dX2_landBehindYear_11 : decode cX2_landBehindYear 11 = .ok (.iload_n 2, 1) := by decide +kernel
theorem dX2_landBehindYear_12 : decode cX2_landBehindYear 12 = .ok (.i2l, 1) := by decide +kernel
theorem dX2_landBehindYear_13 : decode cX2_landBehindYear 13 = .ok (.lstore_n 3, 1) := by decide +kernel
theorem dX2_landBehindYear_14 : decode cX2_landBehindYear 14 = .ok (.iconst 0, 1) := by decide +kernel
theorem dX2_landBehindYear_15 : decode cX2_landBehindYear 15 = .ok (.istore 5, 2) := by decide +kernel
theorem dX2_landBehindYear_17 : decode cX2_landBehindYear 17 = .ok (.iload 5, 2) := by decide +kernel
theorem dX2_landBehindYear_19 : decode cX2_landBehindYear 19 = .ok (.iload_n 1, 1) := by decide +kernel
theorem dX2_landBehindYear_20 : decode cX2_landBehindYear 20 = .ok (.if_icmp .ge 67, 3) := by decide +kernel
theorem dX2_landBehindYear_23 : decode cX2_landBehindYear 23 = .ok (.aload_n 0, 1) := by decide +kernel
theorem dX2_landBehindYear_24 : decode cX2_landBehindYear 24 = .ok (.getfield 12, 3) := by decide +kernel
theorem dX2_landBehindYear_27 : decode cX2_landBehindYear 27 = .ok (.getfield 37, 3) := by decide +kernel
theorem dX2_landBehindYear_30 : decode cX2_landBehindYear 30 = .ok (.ifCond .le 57, 3) := by decide +kernel
theorem dX2_landBehindYear_33 : decode cX2_landBehindYear 33 = .ok (.lload_n 3, 1) := by decide +kernel
theorem dX2_landBehindYear_34 : decode cX2_landBehindYear 34 = .ok (.ldc2_w 118, 3) := by decide +kernel
theorem dX2_landBehindYear_37 : decode cX2_landBehindYear 37 = .ok (.lmul, 1) := by decide +kernel
theorem dX2_landBehindYear_38 : decode cX2_landBehindYear 38 = .ok (.ldc2_w 120, 3) := by decide +kernel
theorem dX2_landBehindYear_41 : decode cX2_landBehindYear 41 = .ok (.lrem, 1) := by decide +kernel
theorem dX2_landBehindYear_42 : decode cX2_landBehindYear 42 = .ok (.lstore_n 3, 1) := by decide +kernel
theorem dX2_landBehindYear_43 : decode cX2_landBehindYear 43 = .ok (.lload_n 3, 1) := by decide +kernel
theorem dX2_landBehindYear_44 : decode cX2_landBehindYear 44 = .ok (.aload_n 0, 1) := by decide +kernel
theorem dX2_landBehindYear_45 : decode cX2_landBehindYear 45 = .ok (.getfield 12, 3) := by decide +kernel
theorem dX2_landBehindYear_48 : decode cX2_landBehindYear 48 = .ok (.getfield 37, 3) := by decide +kernel
theorem dX2_landBehindYear_51 : decode cX2_landBehindYear 51 = .ok (.i2l, 1) := by decide +kernel
theorem dX2_landBehindYear_52 : decode cX2_landBehindYear 52 = .ok (.lrem, 1) := by decide +kernel
theorem dX2_landBehindYear_53 : decode cX2_landBehindYear 53 = .ok (.l2i, 1) := by decide +kernel
theorem dX2_landBehindYear_54 : decode cX2_landBehindYear 54 = .ok (.istore 6, 2) := by decide +kernel
theorem dX2_landBehindYear_56 : decode cX2_landBehindYear 56 = .ok (.aload_n 0, 1) := by decide +kernel
theorem dX2_landBehindYear_57 : decode cX2_landBehindYear 57 = .ok (.getfield 12, 3) := by decide +kernel
theorem dX2_landBehindYear_60 : decode cX2_landBehindYear 60 = .ok (.iload 6, 2) := by decide +kernel
theorem dX2_landBehindYear_62 : decode cX2_landBehindYear 62 = .ok (.invokevirtual 122, 3) := by decide +kernel
theorem dX2_landBehindYear_65 : decode cX2_landBehindYear 65 = .ok (.aload_n 0, 1) := by decide +kernel
theorem dX2_landBehindYear_66 : decode cX2_landBehindYear 66 = .ok (.getfield 12, 3) := by decide +kernel
theorem dX2_landBehindYear_69 : decode cX2_landBehindYear 69 = .ok (.invokevirtual 52, 3) := by decide +kernel
theorem dX2_landBehindYear_72 : decode cX2_landBehindYear 72 = .ok (.aload_n 0, 1) := by decide +kernel
theorem dX2_landBehindYear_73 : decode cX2_landBehindYear 73 = .ok (.getfield 12, 3) := by decide +kernel
theorem dX2_landBehindYear_76 : decode cX2_landBehindYear 76 = .ok (.iload 6, 2) := by decide +kernel
theorem dX2_landBehindYear_78 : decode cX2_landBehindYear 78 = .ok (.invokevirtual 122, 3) := by decide +kernel
theorem dX2_landBehindYear_81 : decode cX2_landBehindYear 81 = .ok (.iinc 5 1, 3) := by decide +kernel
theorem dX2_landBehindYear_84 : decode cX2_landBehindYear 84 = .ok (.goto (-67), 3) := by decide +kernel
theorem dX2_landBehindYear_87 : decode cX2_landBehindYear 87 = .ok (.aload_n 0, 1) := by decide +kernel
theorem dX2_landBehindYear_88 : decode cX2_landBehindYear 88 = .ok (.getfield 12, 3) := by decide +kernel
theorem dX2_landBehindYear_91 : decode cX2_landBehindYear 91 = .ok (.areturn, 1) := by decide +kernel
theorem lq_X3_above_0 {w : Cond} (h : w ∈ ([.fieldLink RX3 13 "WinterWalk$Kinds" "ABOVE" "[I", .static yX7_isFrom, .initialized RX7, .code yX7_isFrom cX7_isFrom 3 (some .boolean)] : List Cond)) : w ∈ wsX3_above := List.mem_cons_of_mem _ (h)
set_option maxRecDepth 20000 in
theorem ggX3_above_X7_isFrom : GoodIn wsX3_above wsX7_isFrom := goodIn_sub (List.forall_mem_cons.mpr ⟨lq_X3_above_0 (List.mem_of_getElem? (i := 3) rfl), (show ∀ w ∈ ([] : List Cond), w ∈ wsX3_above from fun _ h => absurd h List.not_mem_nil)⟩) (by decide +kernel)
theorem gX3_above_X7_isFrom_n9 : GoodIn wsX3_above (wsX7_isFrom) := ggX3_above_X7_isFrom
theorem dX3_above_0 : decode cX3_above 0 = .ok (.iconst 0, 1) := by decide +kernel
theorem dX3_above_1 : decode cX3_above 1 = .ok (.iload_n 0, 1) := by decide +kernel
theorem dX3_above_2 : decode cX3_above 2 = .ok (.iconst 5, 1) := by decide +kernel
theorem dX3_above_3 : decode cX3_above 3 = .ok (.invokestatic 9, 3) := by decide +kernel
theorem dX3_above_6 : decode cX3_above 6 = .ok (.ifCond .eq 11, 3) := by decide +kernel
theorem dX3_above_9 : decode cX3_above 9 = .ok (.getstatic 13, 3) := by decide +kernel
theorem dX3_above_12 : decode cX3_above 12 = .ok (.iload_n 0, 1) := by decide +kernel
theorem dX3_above_13 : decode cX3_above 13 = .ok (.iaload, 1) := by decide +kernel
theorem dX3_above_14 : decode cX3_above 14 = .ok (.goto 4, 3) := by decide +kernel
theorem dX3_above_17 : decode cX3_above 17 = .ok (.iconst (-1), 1) := by decide +kernel
theorem dX3_above_18 : decode cX3_above 18 = .ok (.ireturn, 1) := by decide +kernel
theorem lq_X3_isOf_0 {w : Cond} (h : w ∈ ([.methodLink RX3 19 yX3_above, .static yX3_above, .initialized RX3, .code yX3_above cX3_above 1 (some .int), .fieldLink RX3 13 "WinterWalk$Kinds" "ABOVE" "[I", .static yX7_isFrom, .initialized RX7, .code yX7_isFrom cX7_isFrom 3 (some .boolean)] : List Cond)) : w ∈ wsX3_isOf := List.mem_cons_of_mem _ (h)
set_option maxRecDepth 20000 in
theorem ggX3_isOf_X3_above : GoodIn wsX3_isOf wsX3_above := goodIn_sub (List.forall_mem_cons.mpr ⟨lq_X3_isOf_0 (List.mem_of_getElem? (i := 3) rfl), (show ∀ w ∈ ([.fieldLink RX3 13 "WinterWalk$Kinds" "ABOVE" "[I", .static yX7_isFrom, .initialized RX7, .code yX7_isFrom cX7_isFrom 3 (some .boolean)] : List Cond), w ∈ wsX3_isOf from List.forall_mem_cons.mpr ⟨lq_X3_isOf_0 (List.mem_of_getElem? (i := 4) rfl), List.forall_mem_cons.mpr ⟨lq_X3_isOf_0 (List.mem_of_getElem? (i := 5) rfl), List.forall_mem_cons.mpr ⟨lq_X3_isOf_0 (List.mem_of_getElem? (i := 6) rfl), List.forall_mem_cons.mpr ⟨lq_X3_isOf_0 (List.mem_of_getElem? (i := 7) rfl), fun _ h => absurd h List.not_mem_nil⟩⟩⟩⟩)⟩) (by decide +kernel)
set_option maxRecDepth 20000 in
theorem gX3_isOf_X3_above : GoodIn wsX3_isOf (va_wsS RX3 19 yX3_above wsX3_above) := goodIn_app (goodIn_sub (List.forall_mem_cons.mpr ⟨lq_X3_isOf_0 (List.mem_of_getElem? (i := 0) rfl), List.forall_mem_cons.mpr ⟨lq_X3_isOf_0 (List.mem_of_getElem? (i := 1) rfl), List.forall_mem_cons.mpr ⟨lq_X3_isOf_0 (List.mem_of_getElem? (i := 2) rfl), fun _ h => absurd h List.not_mem_nil⟩⟩⟩) (by decide +kernel)) ggX3_isOf_X3_above
theorem dX3_isOf_0 : decode cX3_isOf 0 = .ok (.iload_n 0, 1) := by decide +kernel
theorem dX3_isOf_1 : decode cX3_isOf 1 = .ok (.istore_n 2, 1) := by decide +kernel
theorem dX3_isOf_2 : decode cX3_isOf 2 = .ok (.iconst 0, 1) := by decide +kernel
theorem dX3_isOf_3 : decode cX3_isOf 3 = .ok (.istore_n 3, 1) := by decide +kernel
theorem dX3_isOf_4 : decode cX3_isOf 4 = .ok (.iload_n 3, 1) := by decide +kernel
theorem dX3_isOf_5 : decode cX3_isOf 5 = .ok (.iconst 5, 1) := by decide +kernel
theorem dX3_isOf_6 : decode cX3_isOf 6 = .ok (.if_icmp .gt 26, 3) := by decide +kernel
theorem dX3_isOf_9 : decode cX3_isOf 9 = .ok (.iload_n 2, 1) := by decide +kernel
theorem dX3_isOf_10 : decode cX3_isOf 10 = .ok (.iconst (-1), 1) := by decide +kernel
theorem dX3_isOf_11 : decode cX3_isOf 11 = .ok (.if_icmp .eq 21, 3) := by decide +kernel
theorem dX3_isOf_14 : decode cX3_isOf 14 = .ok (.iload_n 2, 1) := by decide +kernel
theorem dX3_isOf_15 : decode cX3_isOf 15 = .ok (.iload_n 1, 1) := by decide +kernel
theorem dX3_isOf_16 : decode cX3_isOf 16 = .ok (.if_icmp .ne 5, 3) := by decide +kernel
theorem dX3_isOf_19 : decode cX3_isOf 19 = .ok (.iconst 1, 1) := by decide +kernel
theorem dX3_isOf_20 : decode cX3_isOf 20 = .ok (.ireturn, 1) := by decide +kernel
theorem dX3_isOf_21 : decode cX3_isOf 21 = .ok (.iload_n 2, 1) := by decide +kernel
theorem dX3_isOf_22 : decode cX3_isOf 22 = .ok (.invokestatic 19, 3) := by decide +kernel
theorem dX3_isOf_25 : decode cX3_isOf 25 = .ok (.istore_n 2, 1) := by decide +kernel
theorem dX3_isOf_26 : decode cX3_isOf 26 = .ok (.iinc 3 1, 3) := by decide +kernel
theorem dX3_isOf_29 : decode cX3_isOf 29 = .ok (.goto (-25), 3) := by decide +kernel
theorem dX3_isOf_32 : decode cX3_isOf 32 = .ok (.iconst 0, 1) := by decide +kernel
theorem dX3_isOf_33 : decode cX3_isOf 33 = .ok (.ireturn, 1) := by decide +kernel
theorem dX4_init_0 : decode cX4_init 0 = .ok (.aload_n 0, 1) := by decide +kernel
theorem dX4_init_1 : decode cX4_init 1 = .ok (.invokespecial 3, 3) := by decide +kernel
theorem dX4_init_4 : decode cX4_init 4 = .ok (.aload_n 0, 1) := by decide +kernel
theorem dX4_init_5 : decode cX4_init 5 = .ok (.iconst 0, 1) := by decide +kernel
theorem dX4_init_6 : decode cX4_init 6 = .ok (.putfield 9, 3) := by decide +kernel
theorem dX4_init_9 : decode cX4_init 9 = .ok (.aload_n 0, 1) := by decide +kernel
theorem dX4_init_10 : decode cX4_init 10 = .ok (.iconst 0, 1) := by decide +kernel
theorem dX4_init_11 : decode cX4_init 11 = .ok (.putfield 15, 3) := by decide +kernel
theorem dX4_init_14 : decode cX4_init 14 = .ok (.aload_n 0, 1) := by decide +kernel
theorem dX4_init_15 : decode cX4_init 15 = .ok (.iconst 0, 1) := by decide +kernel
theorem dX4_init_16 : decode cX4_init 16 = .ok (.putfield 18, 3) := by decide +kernel
theorem dX4_init_19 : decode cX4_init 19 = .ok (.aload_n 0, 1) := by decide +kernel
theorem dX4_init_20 : decode cX4_init 20 = .ok (.iconst 0, 1) := by decide +kernel
theorem dX4_init_21 : decode cX4_init 21 = .ok (.putfield 21, 3) := by decide +kernel
theorem dX4_init_24 : decode cX4_init 24 = .ok (.aload_n 0, 1) := by decide +kernel
theorem dX4_init_25 : decode cX4_init 25 = .ok (.iconst 0, 1) := by decide +kernel
theorem dX4_init_26 : decode cX4_init 26 = .ok (.putfield 24, 3) := by decide +kernel
theorem dX4_init_29 : decode cX4_init 29 = .ok (.aload_n 0, 1) := by decide +kernel
theorem dX4_init_30 : decode cX4_init 30 = .ok (.iconst 0, 1) := by decide +kernel
theorem dX4_init_31 : decode cX4_init 31 = .ok (.putfield 27, 3) := by decide +kernel
theorem dX4_init_34 : decode cX4_init 34 = .ok (.aload_n 0, 1) := by decide +kernel
theorem dX4_init_35 : decode cX4_init 35 = .ok (.iconst 0, 1) := by decide +kernel
theorem dX4_init_36 : decode cX4_init 36 = .ok (.putfield 30, 3) := by decide +kernel
theorem dX4_init_39 : decode cX4_init 39 = .ok (.aload_n 0, 1) := by decide +kernel
theorem dX4_init_40 : decode cX4_init 40 = .ok (.iconst 0, 1) := by decide +kernel
theorem dX4_init_41 : decode cX4_init 41 = .ok (.putfield 33, 3) := by decide +kernel
theorem dX4_init_44 : decode cX4_init 44 = .ok (.aload_n 0, 1) := by decide +kernel
theorem dX4_init_45 : decode cX4_init 45 = .ok (.bipush 8, 2) := by decide +kernel
theorem dX4_init_47 : decode cX4_init 47 = .ok (.newarray .int, 2) := by decide +kernel
theorem dX4_init_49 : decode cX4_init 49 = .ok (.putfield 36, 3) := by decide +kernel
theorem dX4_init_52 : decode cX4_init 52 = .ok (.aload_n 0, 1) := by decide +kernel
theorem dX4_init_53 : decode cX4_init 53 = .ok (.bipush 8, 2) := by decide +kernel
theorem dX4_init_55 : decode cX4_init 55 = .ok (.newarray .int, 2) := by decide +kernel
theorem dX4_init_57 : decode cX4_init 57 = .ok (.putfield 40, 3) := by decide +kernel
theorem dX4_init_60 : decode cX4_init 60 = .ok (.aload_n 0, 1) := by decide +kernel
theorem dX4_init_61 : decode cX4_init 61 = .ok (.bipush 8, 2) := by decide +kernel
theorem dX4_init_63 : decode cX4_init 63 = .ok (.newarray .int, 2) := by decide +kernel
theorem dX4_init_65 : decode cX4_init 65 = .ok (.putfield 43, 3) := by decide +kernel
theorem dX4_init_68 : decode cX4_init 68 = .ok (.aload_n 0, 1) := by decide +kernel
theorem dX4_init_69 : decode cX4_init 69 = .ok (.bipush 8, 2) := by decide +kernel
theorem dX4_init_71 : decode cX4_init 71 = .ok (.newarray .int, 2) := by decide +kernel
theorem dX4_init_73 : decode cX4_init 73 = .ok (.putfield 46, 3) := by decide +kernel
theorem dX4_init_76 : decode cX4_init 76 = .ok (.aload_n 0, 1) := by decide +kernel
theorem dX4_init_77 : decode cX4_init 77 = .ok (.bipush 8, 2) := by decide +kernel
theorem dX4_init_79 : decode cX4_init 79 = .ok (.newarray .int, 2) := by decide +kernel
theorem dX4_init_81 : decode cX4_init 81 = .ok (.putfield 49, 3) := by decide +kernel
theorem dX4_init_84 : decode cX4_init 84 = .ok (.aload_n 0, 1) := by decide +kernel
theorem dX4_init_85 : decode cX4_init 85 = .ok (.iconst 3, 1) := by decide +kernel
theorem dX4_init_86 : decode cX4_init 86 = .ok (.newarray .int, 2) := by decide +kernel
theorem dX4_init_88 : decode cX4_init 88 = .ok (.putfield 52, 3) := by decide +kernel
theorem dX4_init_91 : decode cX4_init 91 = .ok (.aload_n 0, 1) := by decide +kernel
theorem dX4_init_92 : decode cX4_init 92 = .ok (.iconst 3, 1) := by decide +kernel
theorem dX4_init_93 : decode cX4_init 93 = .ok (.newarray .int, 2) := by decide +kernel
theorem dX4_init_95 : decode cX4_init 95 = .ok (.putfield 55, 3) := by decide +kernel
theorem dX4_init_98 : decode cX4_init 98 = .ok (.aload_n 0, 1) := by decide +kernel
theorem dX4_init_99 : decode cX4_init 99 = .ok (.iconst 3, 1) := by decide +kernel
theorem dX4_init_100 : decode cX4_init 100 = .ok (.newarray .int, 2) := by decide +kernel
theorem dX4_init_102 : decode cX4_init 102 = .ok (.putfield 58, 3) := by decide +kernel
theorem dX4_init_105 : decode cX4_init 105 = .ok (.return_, 1) := by decide +kernel
theorem dX4_isNone_0 : decode cX4_isNone 0 = .ok (.aload_n 0, 1) := by decide +kernel
theorem dX4_isNone_1 : decode cX4_isNone 1 = .ok (.getfield 9, 3) := by decide +kernel
theorem dX4_isNone_4 : decode cX4_isNone 4 = .ok (.ifCond .ne 7, 3) := by decide +kernel
theorem dX4_isNone_7 : decode cX4_isNone 7 = .ok (.iconst 1, 1) := by decide +kernel
theorem dX4_isNone_8 : decode cX4_isNone 8 = .ok (.goto 4, 3) := by decide +kernel
theorem dX4_isNone_11 : decode cX4_isNone 11 = .ok (.iconst 0, 1) := by decide +kernel
theorem dX4_isNone_12 : decode cX4_isNone 12 = .ok (.ireturn, 1) := by decide +kernel
theorem dX4_hasVillage_0 : decode cX4_hasVillage 0 = .ok (.iload_n 1, 1) := by decide +kernel
theorem dX4_hasVillage_1 : decode cX4_hasVillage 1 = .ok (.ifCond .lt 15, 3) := by decide +kernel
theorem dX4_hasVillage_4 : decode cX4_hasVillage 4 = .ok (.iload_n 1, 1) := by decide +kernel
theorem dX4_hasVillage_5 : decode cX4_hasVillage 5 = .ok (.aload_n 0, 1) := by decide +kernel
theorem dX4_hasVillage_6 : decode cX4_hasVillage 6 = .ok (.getfield 9, 3) := by decide +kernel
theorem dX4_hasVillage_9 : decode cX4_hasVillage 9 = .ok (.if_icmp .ge 7, 3) := by decide +kernel
theorem dX4_hasVillage_12 : decode cX4_hasVillage 12 = .ok (.iconst 1, 1) := by decide +kernel
theorem dX4_hasVillage_13 : decode cX4_hasVillage 13 = .ok (.goto 4, 3) := by decide +kernel
theorem dX4_hasVillage_16 : decode cX4_hasVillage 16 = .ok (.iconst 0, 1) := by decide +kernel
theorem dX4_hasVillage_17 : decode cX4_hasVillage 17 = .ok (.ireturn, 1) := by decide +kernel
theorem dX4_hasWalker_0 : decode cX4_hasWalker 0 = .ok (.iload_n 1, 1) := by decide +kernel
theorem dX4_hasWalker_1 : decode cX4_hasWalker 1 = .ok (.ifCond .lt 15, 3) := by decide +kernel
theorem dX4_hasWalker_4 : decode cX4_hasWalker 4 = .ok (.iload_n 1, 1) := by decide +kernel
theorem dX4_hasWalker_5 : decode cX4_hasWalker 5 = .ok (.aload_n 0, 1) := by decide +kernel
theorem dX4_hasWalker_6 : decode cX4_hasWalker 6 = .ok (.getfield 18, 3) := by decide +kernel
theorem dX4_hasWalker_9 : decode cX4_hasWalker 9 = .ok (.if_icmp .ge 7, 3) := by decide +kernel
theorem dX4_hasWalker_12 : decode cX4_hasWalker 12 = .ok (.iconst 1, 1) := by decide +kernel
theorem dX4_hasWalker_13 : decode cX4_hasWalker 13 = .ok (.goto 4, 3) := by decide +kernel
theorem dX4_hasWalker_16 : decode cX4_hasWalker 16 = .ok (.iconst 0, 1) := by decide +kernel
theorem dX4_hasWalker_17 : decode cX4_hasWalker 17 = .ok (.ireturn, 1) := by decide +kernel
theorem lq_X4_becomeNone_0 {w : Cond} (h : w ∈ ([.fieldLink RX4 9 "WinterWalk$Land" "villages" "I", .fieldLink RX4 15 "WinterWalk$Land" "roadsTold" "I", .fieldLink RX4 18 "WinterWalk$Land" "walkers" "I", .fieldLink RX4 21 "WinterWalk$Land" "lasts" "I", .fieldLink RX4 24 "WinterWalk$Land" "doorsShut" "I", .fieldLink RX4 27 "WinterWalk$Land" "day" "I", .fieldLink RX4 30 "WinterWalk$Land" "gain" "I", .fieldLink RX4 33 "WinterWalk$Land" "paid" "I", .fieldLink RX4 43 "WinterWalk$Land" "roads" "[I", .fieldLink RX4 46 "WinterWalk$Land" "nightsIn" "[I", .methodLink RX4 61 yJ7_fill_53178, .static yJ7_fill_53178, .initialized RJ7, .code yJ7_fill_53178 cJ7_fill_53178 4 none, .methodLink RX4 67 yX4_thawAll, .instanceMethod yX4_thawAll, .selects RX4 yX4_thawAll yX4_thawAll, .initialized RX4, .code yX4_thawAll cX4_thawAll 1 none, .fieldLink RX4 49 "WinterWalk$Land" "thaws" "[I"] : List Cond)) : w ∈ wsX4_becomeNone := List.mem_cons_of_mem _ (List.mem_append_left _ (h))
theorem lt_X4_becomeNone_X4 : ∀ w ∈ wsX40, w ∈ wsX4_becomeNone := fun _ h => List.mem_cons_of_mem _ (List.mem_append_right _ (h))
set_option maxRecDepth 20000 in
theorem ggX4_becomeNone_J7_fill_53178 : GoodIn wsX4_becomeNone wsJ7_fill_53178 := goodIn_sub (List.forall_mem_cons.mpr ⟨lq_X4_becomeNone_0 (List.mem_of_getElem? (i := 13) rfl), (show ∀ w ∈ ([] : List Cond), w ∈ wsX4_becomeNone from fun _ h => absurd h List.not_mem_nil)⟩) (by decide +kernel)
set_option maxRecDepth 20000 in
theorem gX4_becomeNone_J7_fill_53178 : GoodIn wsX4_becomeNone (va_wsS RX4 61 yJ7_fill_53178 wsJ7_fill_53178) := goodIn_app (goodIn_sub (List.forall_mem_cons.mpr ⟨lq_X4_becomeNone_0 (List.mem_of_getElem? (i := 10) rfl), List.forall_mem_cons.mpr ⟨lq_X4_becomeNone_0 (List.mem_of_getElem? (i := 11) rfl), List.forall_mem_cons.mpr ⟨lq_X4_becomeNone_0 (List.mem_of_getElem? (i := 12) rfl), fun _ h => absurd h List.not_mem_nil⟩⟩⟩) (by decide +kernel)) ggX4_becomeNone_J7_fill_53178
set_option maxRecDepth 20000 in
theorem ggX4_becomeNone_X4_thawAll : GoodIn wsX4_becomeNone wsX4_thawAll := goodIn_sub (List.forall_mem_cons.mpr ⟨lq_X4_becomeNone_0 (List.mem_of_getElem? (i := 18) rfl), (List.forall_mem_append.mpr ⟨(show ∀ w ∈ ([.fieldLink RX4 49 "WinterWalk$Land" "thaws" "[I", .methodLink RX4 61 yJ7_fill_53178, .static yJ7_fill_53178, .initialized RJ7, .code yJ7_fill_53178 cJ7_fill_53178 4 none] : List Cond), w ∈ wsX4_becomeNone from List.forall_mem_cons.mpr ⟨lq_X4_becomeNone_0 (List.mem_of_getElem? (i := 19) rfl), List.forall_mem_cons.mpr ⟨lq_X4_becomeNone_0 (List.mem_of_getElem? (i := 10) rfl), List.forall_mem_cons.mpr ⟨lq_X4_becomeNone_0 (List.mem_of_getElem? (i := 11) rfl), List.forall_mem_cons.mpr ⟨lq_X4_becomeNone_0 (List.mem_of_getElem? (i := 12) rfl), List.forall_mem_cons.mpr ⟨lq_X4_becomeNone_0 (List.mem_of_getElem? (i := 13) rfl), fun _ h => absurd h List.not_mem_nil⟩⟩⟩⟩⟩), lt_X4_becomeNone_X4⟩)⟩) (by decide +kernel)
set_option maxRecDepth 20000 in
theorem gX4_becomeNone_X4_thawAll : GoodIn wsX4_becomeNone (wsV RX4 67 RX4 yX4_thawAll wsX4_thawAll) := goodIn_app (goodIn_sub (List.forall_mem_cons.mpr ⟨lq_X4_becomeNone_0 (List.mem_of_getElem? (i := 14) rfl), List.forall_mem_cons.mpr ⟨lq_X4_becomeNone_0 (List.mem_of_getElem? (i := 15) rfl), List.forall_mem_cons.mpr ⟨lq_X4_becomeNone_0 (List.mem_of_getElem? (i := 16) rfl), List.forall_mem_cons.mpr ⟨lq_X4_becomeNone_0 (List.mem_of_getElem? (i := 17) rfl), fun _ h => absurd h List.not_mem_nil⟩⟩⟩⟩) (by decide +kernel)) ggX4_becomeNone_X4_thawAll
theorem dX4_becomeNone_0 : decode cX4_becomeNone 0 = .ok (.aload_n 0, 1) := by decide +kernel
theorem dX4_becomeNone_1 : decode cX4_becomeNone 1 = .ok (.iconst 0, 1) := by decide +kernel
theorem dX4_becomeNone_2 : decode cX4_becomeNone 2 = .ok (.putfield 9, 3) := by decide +kernel
theorem dX4_becomeNone_5 : decode cX4_becomeNone 5 = .ok (.aload_n 0, 1) := by decide +kernel
theorem dX4_becomeNone_6 : decode cX4_becomeNone 6 = .ok (.iconst 0, 1) := by decide +kernel
theorem dX4_becomeNone_7 : decode cX4_becomeNone 7 = .ok (.putfield 15, 3) := by decide +kernel
theorem dX4_becomeNone_10 : decode cX4_becomeNone 10 = .ok (.aload_n 0, 1) := by decide +kernel
theorem dX4_becomeNone_11 : decode cX4_becomeNone 11 = .ok (.iconst 0, 1) := by decide +kernel
theorem dX4_becomeNone_12 : decode cX4_becomeNone 12 = .ok (.putfield 18, 3) := by decide +kernel
theorem dX4_becomeNone_15 : decode cX4_becomeNone 15 = .ok (.aload_n 0, 1) := by decide +kernel
theorem dX4_becomeNone_16 : decode cX4_becomeNone 16 = .ok (.iconst 0, 1) := by decide +kernel
theorem dX4_becomeNone_17 : decode cX4_becomeNone 17 = .ok (.putfield 21, 3) := by decide +kernel
theorem dX4_becomeNone_20 : decode cX4_becomeNone 20 = .ok (.aload_n 0, 1) := by decide +kernel
theorem dX4_becomeNone_21 : decode cX4_becomeNone 21 = .ok (.iconst 0, 1) := by decide +kernel
theorem dX4_becomeNone_22 : decode cX4_becomeNone 22 = .ok (.putfield 24, 3) := by decide +kernel
theorem dX4_becomeNone_25 : decode cX4_becomeNone 25 = .ok (.aload_n 0, 1) := by decide +kernel
theorem dX4_becomeNone_26 : decode cX4_becomeNone 26 = .ok (.iconst 0, 1) := by decide +kernel
theorem dX4_becomeNone_27 : decode cX4_becomeNone 27 = .ok (.putfield 27, 3) := by decide +kernel
theorem dX4_becomeNone_30 : decode cX4_becomeNone 30 = .ok (.aload_n 0, 1) := by decide +kernel
theorem dX4_becomeNone_31 : decode cX4_becomeNone 31 = .ok (.iconst 0, 1) := by decide +kernel
theorem dX4_becomeNone_32 : decode cX4_becomeNone 32 = .ok (.putfield 30, 3) := by decide +kernel
theorem dX4_becomeNone_35 : decode cX4_becomeNone 35 = .ok (.aload_n 0, 1) := by decide +kernel
theorem dX4_becomeNone_36 : decode cX4_becomeNone 36 = .ok (.iconst 0, 1) := by decide +kernel
theorem dX4_becomeNone_37 : decode cX4_becomeNone 37 = .ok (.putfield 33, 3) := by decide +kernel
theorem dX4_becomeNone_40 : decode cX4_becomeNone 40 = .ok (.aload_n 0, 1) := by decide +kernel
theorem dX4_becomeNone_41 : decode cX4_becomeNone 41 = .ok (.getfield 43, 3) := by decide +kernel
theorem dX4_becomeNone_44 : decode cX4_becomeNone 44 = .ok (.iconst 0, 1) := by decide +kernel
theorem dX4_becomeNone_45 : decode cX4_becomeNone 45 = .ok (.invokestatic 61, 3) := by decide +kernel
theorem dX4_becomeNone_48 : decode cX4_becomeNone 48 = .ok (.aload_n 0, 1) := by decide +kernel
theorem dX4_becomeNone_49 : decode cX4_becomeNone 49 = .ok (.getfield 46, 3) := by decide +kernel
theorem dX4_becomeNone_52 : decode cX4_becomeNone 52 = .ok (.iconst 0, 1) := by decide +kernel
theorem dX4_becomeNone_53 : decode cX4_becomeNone 53 = .ok (.invokestatic 61, 3) := by decide +kernel
theorem dX4_becomeNone_56 : decode cX4_becomeNone 56 = .ok (.aload_n 0, 1) := by decide +kernel
theorem dX4_becomeNone_57 : decode cX4_becomeNone 57 = .ok (.invokevirtual 67, 3) := by decide +kernel
theorem dX4_becomeNone_60 : decode cX4_becomeNone 60 = .ok (.return_, 1) := by decide +kernel
theorem dX4_becomeLike_0 : decode cX4_becomeLike 0 = .ok (.aload_n 0, 1) := by decide +kernel
theorem dX4_becomeLike_1 : decode cX4_becomeLike 1 = .ok (.aload_n 1, 1) := by decide +kernel
theorem dX4_becomeLike_2 : decode cX4_becomeLike 2 = .ok (.getfield 9, 3) := by decide +kernel
theorem dX4_becomeLike_5 : decode cX4_becomeLike 5 = .ok (.putfield 9, 3) := by decide +kernel
theorem dX4_becomeLike_8 : decode cX4_becomeLike 8 = .ok (.aload_n 0, 1) := by decide +kernel
theorem dX4_becomeLike_9 : decode cX4_becomeLike 9 = .ok (.aload_n 1, 1) := by decide +kernel
theorem dX4_becomeLike_10 : decode cX4_becomeLike 10 = .ok (.getfield 15, 3) := by decide +kernel
theorem dX4_becomeLike_13 : decode cX4_becomeLike 13 = .ok (.putfield 15, 3) := by decide +kernel
theorem dX4_becomeLike_16 : decode cX4_becomeLike 16 = .ok (.aload_n 0, 1) := by decide +kernel
theorem dX4_becomeLike_17 : decode cX4_becomeLike 17 = .ok (.aload_n 1, 1) := by decide +kernel
theorem dX4_becomeLike_18 : decode cX4_becomeLike 18 = .ok (.getfield 18, 3) := by decide +kernel
theorem dX4_becomeLike_21 : decode cX4_becomeLike 21 = .ok (.putfield 18, 3) := by decide +kernel
theorem dX4_becomeLike_24 : decode cX4_becomeLike 24 = .ok (.aload_n 0, 1) := by decide +kernel
theorem dX4_becomeLike_25 : decode cX4_becomeLike 25 = .ok (.aload_n 1, 1) := by decide +kernel
theorem dX4_becomeLike_26 : decode cX4_becomeLike 26 = .ok (.getfield 21, 3) := by decide +kernel
theorem dX4_becomeLike_29 : decode cX4_becomeLike 29 = .ok (.putfield 21, 3) := by decide +kernel
theorem dX4_becomeLike_32 : decode cX4_becomeLike 32 = .ok (.aload_n 0, 1) := by decide +kernel
theorem dX4_becomeLike_33 : decode cX4_becomeLike 33 = .ok (.aload_n 1, 1) := by decide +kernel
theorem dX4_becomeLike_34 : decode cX4_becomeLike 34 = .ok (.getfield 24, 3) := by decide +kernel
theorem dX4_becomeLike_37 : decode cX4_becomeLike 37 = .ok (.putfield 24, 3) := by decide +kernel
theorem dX4_becomeLike_40 : decode cX4_becomeLike 40 = .ok (.aload_n 0, 1) := by decide +kernel
theorem dX4_becomeLike_41 : decode cX4_becomeLike 41 = .ok (.aload_n 1, 1) := by decide +kernel
theorem dX4_becomeLike_42 : decode cX4_becomeLike 42 = .ok (.getfield 27, 3) := by decide +kernel
theorem dX4_becomeLike_45 : decode cX4_becomeLike 45 = .ok (.putfield 27, 3) := by decide +kernel
theorem dX4_becomeLike_48 : decode cX4_becomeLike 48 = .ok (.aload_n 0, 1) := by decide +kernel
theorem dX4_becomeLike_49 : decode cX4_becomeLike 49 = .ok (.aload_n 1, 1) := by decide +kernel
theorem dX4_becomeLike_50 : decode cX4_becomeLike 50 = .ok (.getfield 30, 3) := by decide +kernel
theorem dX4_becomeLike_53 : decode cX4_becomeLike 53 = .ok (.putfield 30, 3) := by decide +kernel
theorem dX4_becomeLike_56 : decode cX4_becomeLike 56 = .ok (.aload_n 0, 1) := by decide +kernel
theorem dX4_becomeLike_57 : decode cX4_becomeLike 57 = .ok (.aload_n 1, 1) := by decide +kernel
theorem dX4_becomeLike_58 : decode cX4_becomeLike 58 = .ok (.getfield 33, 3) := by decide +kernel
theorem dX4_becomeLike_61 : decode cX4_becomeLike 61 = .ok (.putfield 33, 3) := by decide +kernel
theorem dX4_becomeLike_64 : decode cX4_becomeLike 64 = .ok (.aload_n 1, 1) := by decide +kernel
theorem dX4_becomeLike_65 : decode cX4_becomeLike 65 = .ok (.getfield 36, 3) := by decide +kernel
theorem dX4_becomeLike_68 : decode cX4_becomeLike 68 = .ok (.iconst 0, 1) := by decide +kernel
theorem dX4_becomeLike_69 : decode cX4_becomeLike 69 = .ok (.aload_n 0, 1) := by decide +kernel
theorem dX4_becomeLike_70 : decode cX4_becomeLike 70 = .ok (.getfield 36, 3) := by decide +kernel
theorem dX4_becomeLike_73 : decode cX4_becomeLike 73 = .ok (.iconst 0, 1) := by decide +kernel
theorem dX4_becomeLike_74 : decode cX4_becomeLike 74 = .ok (.bipush 8, 2) := by decide +kernel
theorem dX4_becomeLike_76 : decode cX4_becomeLike 76 = .ok (.invokestatic 70, 3) := by decide +kernel
theorem dX4_becomeLike_79 : decode cX4_becomeLike 79 = .ok (.aload_n 1, 1) := by decide +kernel
theorem dX4_becomeLike_80 : decode cX4_becomeLike 80 = .ok (.getfield 40, 3) := by decide +kernel
theorem dX4_becomeLike_83 : decode cX4_becomeLike 83 = .ok (.iconst 0, 1) := by decide +kernel
theorem dX4_becomeLike_84 : decode cX4_becomeLike 84 = .ok (.aload_n 0, 1) := by decide +kernel
theorem dX4_becomeLike_85 : decode cX4_becomeLike 85 = .ok (.getfield 40, 3) := by decide +kernel
theorem dX4_becomeLike_88 : decode cX4_becomeLike 88 = .ok (.iconst 0, 1) := by decide +kernel
theorem dX4_becomeLike_89 : decode cX4_becomeLike 89 = .ok (.bipush 8, 2) := by decide +kernel
theorem dX4_becomeLike_91 : decode cX4_becomeLike 91 = .ok (.invokestatic 70, 3) := by decide +kernel
theorem dX4_becomeLike_94 : decode cX4_becomeLike 94 = .ok (.aload_n 1, 1) := by decide +kernel
theorem dX4_becomeLike_95 : decode cX4_becomeLike 95 = .ok (.getfield 43, 3) := by decide +kernel
theorem dX4_becomeLike_98 : decode cX4_becomeLike 98 = .ok (.iconst 0, 1) := by decide +kernel
theorem dX4_becomeLike_99 : decode cX4_becomeLike 99 = .ok (.aload_n 0, 1) := by decide +kernel
theorem dX4_becomeLike_100 : decode cX4_becomeLike 100 = .ok (.getfield 43, 3) := by decide +kernel
theorem dX4_becomeLike_103 : decode cX4_becomeLike 103 = .ok (.iconst 0, 1) := by decide +kernel
theorem dX4_becomeLike_104 : decode cX4_becomeLike 104 = .ok (.bipush 8, 2) := by decide +kernel
theorem dX4_becomeLike_106 : decode cX4_becomeLike 106 = .ok (.invokestatic 70, 3) := by decide +kernel
theorem dX4_becomeLike_109 : decode cX4_becomeLike 109 = .ok (.aload_n 1, 1) := by decide +kernel
theorem dX4_becomeLike_110 : decode cX4_becomeLike 110 = .ok (.getfield 46, 3) := by decide +kernel
theorem dX4_becomeLike_113 : decode cX4_becomeLike 113 = .ok (.iconst 0, 1) := by decide +kernel
theorem dX4_becomeLike_114 : decode cX4_becomeLike 114 = .ok (.aload_n 0, 1) := by decide +kernel
theorem dX4_becomeLike_115 : decode cX4_becomeLike 115 = .ok (.getfield 46, 3) := by decide +kernel
theorem dX4_becomeLike_118 : decode cX4_becomeLike 118 = .ok (.iconst 0, 1) := by decide +kernel
theorem dX4_becomeLike_119 : decode cX4_becomeLike 119 = .ok (.bipush 8, 2) := by decide +kernel
theorem dX4_becomeLike_121 : decode cX4_becomeLike 121 = .ok (.invokestatic 70, 3) := by decide +kernel
theorem dX4_becomeLike_124 : decode cX4_becomeLike 124 = .ok (.aload_n 1, 1) := by decide +kernel
theorem dX4_becomeLike_125 : decode cX4_becomeLike 125 = .ok (.getfield 49, 3) := by decide +kernel
theorem dX4_becomeLike_128 : decode cX4_becomeLike 128 = .ok (.iconst 0, 1) := by decide +kernel
theorem dX4_becomeLike_129 : decode cX4_becomeLike 129 = .ok (.aload_n 0, 1) := by decide +kernel
theorem dX4_becomeLike_130 : decode cX4_becomeLike 130 = .ok (.getfield 49, 3) := by decide +kernel
theorem dX4_becomeLike_133 : decode cX4_becomeLike 133 = .ok (.iconst 0, 1) := by decide +kernel
theorem dX4_becomeLike_134 : decode cX4_becomeLike 134 = .ok (.bipush 8, 2) := by decide +kernel
theorem dX4_becomeLike_136 : decode cX4_becomeLike 136 = .ok (.invokestatic 70, 3) := by decide +kernel
theorem dX4_becomeLike_139 : decode cX4_becomeLike 139 = .ok (.aload_n 1, 1) := by decide +kernel
theorem dX4_becomeLike_140 : decode cX4_becomeLike 140 = .ok (.getfield 52, 3) := by decide +kernel
theorem dX4_becomeLike_143 : decode cX4_becomeLike 143 = .ok (.iconst 0, 1) := by decide +kernel
theorem dX4_becomeLike_144 : decode cX4_becomeLike 144 = .ok (.aload_n 0, 1) := by decide +kernel
theorem dX4_becomeLike_145 : decode cX4_becomeLike 145 = .ok (.getfield 52, 3) := by decide +kernel
theorem dX4_becomeLike_148 : decode cX4_becomeLike 148 = .ok (.iconst 0, 1) := by decide +kernel
theorem dX4_becomeLike_149 : decode cX4_becomeLike 149 = .ok (.iconst 3, 1) := by decide +kernel
theorem dX4_becomeLike_150 : decode cX4_becomeLike 150 = .ok (.invokestatic 70, 3) := by decide +kernel
theorem dX4_becomeLike_153 : decode cX4_becomeLike 153 = .ok (.aload_n 1, 1) := by decide +kernel
theorem dX4_becomeLike_154 : decode cX4_becomeLike 154 = .ok (.getfield 55, 3) := by decide +kernel
theorem dX4_becomeLike_157 : decode cX4_becomeLike 157 = .ok (.iconst 0, 1) := by decide +kernel
theorem dX4_becomeLike_158 : decode cX4_becomeLike 158 = .ok (.aload_n 0, 1) := by decide +kernel
theorem dX4_becomeLike_159 : decode cX4_becomeLike 159 = .ok (.getfield 55, 3) := by decide +kernel
theorem dX4_becomeLike_162 : decode cX4_becomeLike 162 = .ok (.iconst 0, 1) := by decide +kernel
theorem dX4_becomeLike_163 : decode cX4_becomeLike 163 = .ok (.iconst 3, 1) := by decide +kernel
theorem dX4_becomeLike_164 : decode cX4_becomeLike 164 = .ok (.invokestatic 70, 3) := by decide +kernel
theorem dX4_becomeLike_167 : decode cX4_becomeLike 167 = .ok (.aload_n 1, 1) := by decide +kernel
theorem dX4_becomeLike_168 : decode cX4_becomeLike 168 = .ok (.getfield 58, 3) := by decide +kernel
theorem dX4_becomeLike_171 : decode cX4_becomeLike 171 = .ok (.iconst 0, 1) := by decide +kernel
theorem dX4_becomeLike_172 : decode cX4_becomeLike 172 = .ok (.aload_n 0, 1) := by decide +kernel
theorem dX4_becomeLike_173 : decode cX4_becomeLike 173 = .ok (.getfield 58, 3) := by decide +kernel
theorem dX4_becomeLike_176 : decode cX4_becomeLike 176 = .ok (.iconst 0, 1) := by decide +kernel
theorem dX4_becomeLike_177 : decode cX4_becomeLike 177 = .ok (.iconst 3, 1) := by decide +kernel
theorem dX4_becomeLike_178 : decode cX4_becomeLike 178 = .ok (.invokestatic 70, 3) := by decide +kernel
theorem dX4_becomeLike_181 : decode cX4_becomeLike 181 = .ok (.return_, 1) := by decide +kernel
theorem dX4_addVillage_0 : decode cX4_addVillage 0 = .ok (.aload_n 0, 1) := by decide +kernel
theorem dX4_addVillage_1 : decode cX4_addVillage 1 = .ok (.getfield 9, 3) := by decide +kernel
theorem dX4_addVillage_4 : decode cX4_addVillage 4 = .ok (.bipush 8, 2) := by decide +kernel
theorem dX4_addVillage_6 : decode cX4_addVillage 6 = .ok (.if_icmp .ge 33, 3) := by decide +kernel
theorem dX4_addVillage_9 : decode cX4_addVillage 9 = .ok (.aload_n 0, 1) := by decide +kernel
theorem dX4_addVillage_10 : decode cX4_addVillage 10 = .ok (.getfield 36, 3) := by decide +kernel
theorem dX4_addVillage_13 : decode cX4_addVillage 13 = .ok (.aload_n 0, 1) := by decide +kernel
theorem dX4_addVillage_14 : decode cX4_addVillage 14 = .ok (.getfield 9, 3) := by decide +kernel
theorem dX4_addVillage_17 : decode cX4_addVillage 17 = .ok (.iload_n 1, 1) := by decide +kernel
theorem dX4_addVillage_18 : decode cX4_addVillage 18 = .ok (.iastore, 1) := by decide +kernel
theorem dX4_addVillage_19 : decode cX4_addVillage 19 = .ok (.aload_n 0, 1) := by decide +kernel
theorem dX4_addVillage_20 : decode cX4_addVillage 20 = .ok (.getfield 40, 3) := by decide +kernel
theorem dX4_addVillage_23 : decode cX4_addVillage 23 = .ok (.aload_n 0, 1) := by decide +kernel
theorem dX4_addVillage_24 : decode cX4_addVillage 24 = .ok (.getfield 9, 3) := by decide +kernel
theorem dX4_addVillage_27 : decode cX4_addVillage 27 = .ok (.iload_n 2, 1) := by decide +kernel
theorem dX4_addVillage_28 : decode cX4_addVillage 28 = .ok (.iastore, 1) := by decide +kernel
theorem dX4_addVillage_29 : decode cX4_addVillage 29 = .ok (.aload_n 0, 1) := by decide +kernel
theorem dX4_addVillage_30 : decode cX4_addVillage 30 = .ok (.dup, 1) := by decide +kernel
theorem dX4_addVillage_31 : decode cX4_addVillage 31 = .ok (.getfield 9, 3) := by decide +kernel
theorem dX4_addVillage_34 : decode cX4_addVillage 34 = .ok (.iconst 1, 1) := by decide +kernel
theorem dX4_addVillage_35 : decode cX4_addVillage 35 = .ok (.iadd, 1) := by decide +kernel
theorem dX4_addVillage_36 : decode cX4_addVillage 36 = .ok (.putfield 9, 3) := by decide +kernel
theorem dX4_addVillage_39 : decode cX4_addVillage 39 = .ok (.return_, 1) := by decide +kernel
theorem lq_X4_canJoin_0 {w : Cond} (h : w ∈ ([.fieldLink RX4 43 "WinterWalk$Land" "roads" "[I", .methodLink RX4 76 yX4_hasVillage, .instanceMethod yX4_hasVillage, .selects RX4 yX4_hasVillage yX4_hasVillage, .initialized RX4, .code yX4_hasVillage cX4_hasVillage 2 (some .boolean), .fieldLink RX4 9 "WinterWalk$Land" "villages" "I", .methodLink RX4 80 yX4_isIn, .static yX4_isIn, .code yX4_isIn cX4_isIn 2 (some .boolean)] : List Cond)) : w ∈ wsX4_canJoin := List.mem_cons_of_mem _ (List.mem_append_left _ (h))
theorem lt_X4_canJoin_X4 : ∀ w ∈ wsX40, w ∈ wsX4_canJoin := fun _ h => List.mem_cons_of_mem _ (List.mem_append_right _ (h))
set_option maxRecDepth 20000 in
theorem ggX4_canJoin_X4_hasVillage : GoodIn wsX4_canJoin wsX4_hasVillage := goodIn_sub (List.forall_mem_cons.mpr ⟨lq_X4_canJoin_0 (List.mem_of_getElem? (i := 5) rfl), (List.forall_mem_append.mpr ⟨(show ∀ w ∈ ([.fieldLink RX4 9 "WinterWalk$Land" "villages" "I"] : List Cond), w ∈ wsX4_canJoin from List.forall_mem_cons.mpr ⟨lq_X4_canJoin_0 (List.mem_of_getElem? (i := 6) rfl), fun _ h => absurd h List.not_mem_nil⟩), lt_X4_canJoin_X4⟩)⟩) (by decide +kernel)
set_option maxRecDepth 20000 in
theorem gX4_canJoin_X4_hasVillage : GoodIn wsX4_canJoin (wsV RX4 76 RX4 yX4_hasVillage wsX4_hasVillage) := goodIn_app (goodIn_sub (List.forall_mem_cons.mpr ⟨lq_X4_canJoin_0 (List.mem_of_getElem? (i := 1) rfl), List.forall_mem_cons.mpr ⟨lq_X4_canJoin_0 (List.mem_of_getElem? (i := 2) rfl), List.forall_mem_cons.mpr ⟨lq_X4_canJoin_0 (List.mem_of_getElem? (i := 3) rfl), List.forall_mem_cons.mpr ⟨lq_X4_canJoin_0 (List.mem_of_getElem? (i := 4) rfl), fun _ h => absurd h List.not_mem_nil⟩⟩⟩⟩) (by decide +kernel)) ggX4_canJoin_X4_hasVillage
set_option maxRecDepth 20000 in
theorem ggX4_canJoin_X4_isIn : GoodIn wsX4_canJoin wsX4_isIn := goodIn_sub (List.forall_mem_cons.mpr ⟨lq_X4_canJoin_0 (List.mem_of_getElem? (i := 9) rfl), (show ∀ w ∈ ([] : List Cond), w ∈ wsX4_canJoin from fun _ h => absurd h List.not_mem_nil)⟩) (by decide +kernel)
set_option maxRecDepth 20000 in
theorem gX4_canJoin_X4_isIn : GoodIn wsX4_canJoin (va_wsS RX4 80 yX4_isIn wsX4_isIn) := goodIn_app (goodIn_sub (List.forall_mem_cons.mpr ⟨lq_X4_canJoin_0 (List.mem_of_getElem? (i := 7) rfl), List.forall_mem_cons.mpr ⟨lq_X4_canJoin_0 (List.mem_of_getElem? (i := 8) rfl), List.forall_mem_cons.mpr ⟨lq_X4_canJoin_0 (List.mem_of_getElem? (i := 4) rfl), fun _ h => absurd h List.not_mem_nil⟩⟩⟩) (by decide +kernel)) ggX4_canJoin_X4_isIn
theorem dX4_canJoin_0 : decode cX4_canJoin 0 = .ok (.aload_n 0, 1) := by decide +kernel
theorem dX4_canJoin_1 : decode cX4_canJoin 1 = .ok (.iload_n 1, 1) := by decide +kernel
theorem dX4_canJoin_2 : decode cX4_canJoin 2 = .ok (.invokevirtual 76, 3) := by decide +kernel
theorem dX4_canJoin_5 : decode cX4_canJoin 5 = .ok (.ifCond .eq 33, 3) := by decide +kernel
theorem dX4_canJoin_8 : decode cX4_canJoin 8 = .ok (.aload_n 0, 1) := by decide +kernel
theorem dX4_canJoin_9 : decode cX4_canJoin 9 = .ok (.iload_n 2, 1) := by decide +kernel
theorem dX4_canJoin_10 : decode cX4_canJoin 10 = .ok (.invokevirtual 76, 3) := by decide +kernel
theorem dX4_canJoin_13 : decode cX4_canJoin 13 = .ok (.ifCond .eq 25, 3) := by decide +kernel
theorem dX4_canJoin_16 : decode cX4_canJoin 16 = .ok (.iload_n 1, 1) := by decide +kernel
theorem dX4_canJoin_17 : decode cX4_canJoin 17 = .ok (.iload_n 2, 1) := by decide +kernel
theorem dX4_canJoin_18 : decode cX4_canJoin 18 = .ok (.if_icmp .eq 20, 3) := by decide +kernel
theorem dX4_canJoin_21 : decode cX4_canJoin 21 = .ok (.aload_n 0, 1) := by decide +kernel
theorem dX4_canJoin_22 : decode cX4_canJoin 22 = .ok (.getfield 43, 3) := by decide +kernel
theorem dX4_canJoin_25 : decode cX4_canJoin 25 = .ok (.iload_n 1, 1) := by decide +kernel
theorem dX4_canJoin_26 : decode cX4_canJoin 26 = .ok (.iaload, 1) := by decide +kernel
theorem dX4_canJoin_27 : decode cX4_canJoin 27 = .ok (.iload_n 2, 1) := by decide +kernel
theorem dX4_canJoin_28 : decode cX4_canJoin 28 = .ok (.invokestatic 80, 3) := by decide +kernel
theorem dX4_canJoin_31 : decode cX4_canJoin 31 = .ok (.ifCond .ne 7, 3) := by decide +kernel
theorem dX4_canJoin_34 : decode cX4_canJoin 34 = .ok (.iconst 1, 1) := by decide +kernel
theorem dX4_canJoin_35 : decode cX4_canJoin 35 = .ok (.goto 4, 3) := by decide +kernel
theorem dX4_canJoin_38 : decode cX4_canJoin 38 = .ok (.iconst 0, 1) := by decide +kernel
theorem dX4_canJoin_39 : decode cX4_canJoin 39 = .ok (.ireturn, 1) := by decide +kernel
theorem lq_X4_addRoad_0 {w : Cond} (h : w ∈ ([.fieldLink RX4 43 "WinterWalk$Land" "roads" "[I", .fieldLink RX4 15 "WinterWalk$Land" "roadsTold" "I", .methodLink RX4 84 yX4_canJoin, .instanceMethod yX4_canJoin, .selects RX4 yX4_canJoin yX4_canJoin, .initialized RX4, .code yX4_canJoin cX4_canJoin 3 (some .boolean), .methodLink RX4 76 yX4_hasVillage, .instanceMethod yX4_hasVillage, .selects RX4 yX4_hasVillage yX4_hasVillage, .code yX4_hasVillage cX4_hasVillage 2 (some .boolean), .fieldLink RX4 9 "WinterWalk$Land" "villages" "I", .methodLink RX4 80 yX4_isIn, .static yX4_isIn, .code yX4_isIn cX4_isIn 2 (some .boolean)] : List Cond)) : w ∈ wsX4_addRoad := List.mem_cons_of_mem _ (List.mem_append_left _ (h))
theorem lt_X4_addRoad_X4 : ∀ w ∈ wsX40, w ∈ wsX4_addRoad := fun _ h => List.mem_cons_of_mem _ (List.mem_append_right _ (h))
set_option maxRecDepth 20000 in
theorem ggX4_addRoad_X4_canJoin : GoodIn wsX4_addRoad wsX4_canJoin := goodIn_sub (List.forall_mem_cons.mpr ⟨lq_X4_addRoad_0 (List.mem_of_getElem? (i := 6) rfl), (List.forall_mem_append.mpr ⟨(show ∀ w ∈ ([.fieldLink RX4 43 "WinterWalk$Land" "roads" "[I", .methodLink RX4 76 yX4_hasVillage, .instanceMethod yX4_hasVillage, .selects RX4 yX4_hasVillage yX4_hasVillage, .initialized RX4, .code yX4_hasVillage cX4_hasVillage 2 (some .boolean), .fieldLink RX4 9 "WinterWalk$Land" "villages" "I", .methodLink RX4 80 yX4_isIn, .static yX4_isIn, .code yX4_isIn cX4_isIn 2 (some .boolean)] : List Cond), w ∈ wsX4_addRoad from List.forall_mem_cons.mpr ⟨lq_X4_addRoad_0 (List.mem_of_getElem? (i := 0) rfl), List.forall_mem_cons.mpr ⟨lq_X4_addRoad_0 (List.mem_of_getElem? (i := 7) rfl), List.forall_mem_cons.mpr ⟨lq_X4_addRoad_0 (List.mem_of_getElem? (i := 8) rfl), List.forall_mem_cons.mpr ⟨lq_X4_addRoad_0 (List.mem_of_getElem? (i := 9) rfl), List.forall_mem_cons.mpr ⟨lq_X4_addRoad_0 (List.mem_of_getElem? (i := 5) rfl), List.forall_mem_cons.mpr ⟨lq_X4_addRoad_0 (List.mem_of_getElem? (i := 10) rfl), List.forall_mem_cons.mpr ⟨lq_X4_addRoad_0 (List.mem_of_getElem? (i := 11) rfl), List.forall_mem_cons.mpr ⟨lq_X4_addRoad_0 (List.mem_of_getElem? (i := 12) rfl), List.forall_mem_cons.mpr ⟨lq_X4_addRoad_0 (List.mem_of_getElem? (i := 13) rfl), List.forall_mem_cons.mpr ⟨lq_X4_addRoad_0 (List.mem_of_getElem? (i := 14) rfl), fun _ h => absurd h List.not_mem_nil⟩⟩⟩⟩⟩⟩⟩⟩⟩⟩), lt_X4_addRoad_X4⟩)⟩) (by decide +kernel)
set_option maxRecDepth 20000 in
theorem gX4_addRoad_X4_canJoin : GoodIn wsX4_addRoad (wsV RX4 84 RX4 yX4_canJoin wsX4_canJoin) := goodIn_app (goodIn_sub (List.forall_mem_cons.mpr ⟨lq_X4_addRoad_0 (List.mem_of_getElem? (i := 2) rfl), List.forall_mem_cons.mpr ⟨lq_X4_addRoad_0 (List.mem_of_getElem? (i := 3) rfl), List.forall_mem_cons.mpr ⟨lq_X4_addRoad_0 (List.mem_of_getElem? (i := 4) rfl), List.forall_mem_cons.mpr ⟨lq_X4_addRoad_0 (List.mem_of_getElem? (i := 5) rfl), fun _ h => absurd h List.not_mem_nil⟩⟩⟩⟩) (by decide +kernel)) ggX4_addRoad_X4_canJoin
theorem dX4_addRoad_0 : decode cX4_addRoad 0 = .ok (.aload_n 0, 1) := by decide +kernel
theorem dX4_addRoad_1 : decode cX4_addRoad 1 = .ok (.iload_n 1, 1) := by decide +kernel
theorem dX4_addRoad_2 : decode cX4_addRoad 2 = .ok (.iload_n 2, 1) := by decide +kernel
theorem dX4_addRoad_3 : decode cX4_addRoad 3 = .ok (.invokevirtual 84, 3) := by decide +kernel
theorem dX4_addRoad_6 : decode cX4_addRoad 6 = .ok (.ifCond .eq 37, 3) := by decide +kernel
theorem dX4_addRoad_9 : decode cX4_addRoad 9 = .ok (.aload_n 0, 1) := by decide +kernel
theorem dX4_addRoad_10 : decode cX4_addRoad 10 = .ok (.getfield 43, 3) := by decide +kernel
theorem dX4_addRoad_13 : decode cX4_addRoad 13 = .ok (.iload_n 1, 1) := by decide +kernel
theorem dX4_addRoad_14 : decode cX4_addRoad 14 = .ok (.dup2, 1) := by decide +kernel
theorem dX4_addRoad_15 : decode cX4_addRoad 15 = .ok (.iaload, 1) := by decide +kernel
theorem dX4_addRoad_16 : decode cX4_addRoad 16 = .ok (.iconst 1, 1) := by decide +kernel
theorem dX4_addRoad_17 : decode cX4_addRoad 17 = .ok (.iload_n 2, 1) := by decide +kernel
theorem dX4_addRoad_18 : decode cX4_addRoad 18 = .ok (.ishl, 1) := by decide +kernel
theorem dX4_addRoad_19 : decode cX4_addRoad 19 = .ok (.ior, 1) := by decide +kernel
theorem dX4_addRoad_20 : decode cX4_addRoad 20 = .ok (.iastore, 1) := by decide +kernel
theorem dX4_addRoad_21 : decode cX4_addRoad 21 = .ok (.aload_n 0, 1) := by decide +kernel
theorem dX4_addRoad_22 : decode cX4_addRoad 22 = .ok (.getfield 43, 3) := by decide +kernel
theorem dX4_addRoad_25 : decode cX4_addRoad 25 = .ok (.iload_n 2, 1) := by decide +kernel
theorem dX4_addRoad_26 : decode cX4_addRoad 26 = .ok (.dup2, 1) := by decide +kernel
theorem dX4_addRoad_27 : decode cX4_addRoad 27 = .ok (.iaload, 1) := by decide +kernel
theorem dX4_addRoad_28 : decode cX4_addRoad 28 = .ok (.iconst 1, 1) := by decide +kernel
theorem dX4_addRoad_29 : decode cX4_addRoad 29 = .ok (.iload_n 1, 1) := by decide +kernel
theorem dX4_addRoad_30 : decode cX4_addRoad 30 = .ok (.ishl, 1) := by decide +kernel
theorem dX4_addRoad_31 : decode cX4_addRoad 31 = .ok (.ior, 1) := by decide +kernel
theorem dX4_addRoad_32 : decode cX4_addRoad 32 = .ok (.iastore, 1) := by decide +kernel
theorem dX4_addRoad_33 : decode cX4_addRoad 33 = .ok (.aload_n 0, 1) := by decide +kernel
theorem dX4_addRoad_34 : decode cX4_addRoad 34 = .ok (.dup, 1) := by decide +kernel
theorem dX4_addRoad_35 : decode cX4_addRoad 35 = .ok (.getfield 15, 3) := by decide +kernel
theorem dX4_addRoad_38 : decode cX4_addRoad 38 = .ok (.iconst 1, 1) := by decide +kernel
theorem dX4_addRoad_39 : decode cX4_addRoad 39 = .ok (.iadd, 1) := by decide +kernel
theorem dX4_addRoad_40 : decode cX4_addRoad 40 = .ok (.putfield 15, 3) := by decide +kernel
theorem dX4_addRoad_43 : decode cX4_addRoad 43 = .ok (.return_, 1) := by decide +kernel
theorem dX4_addWalker_0 : decode cX4_addWalker 0 = .ok (.aload_n 0, 1) := by decide +kernel
theorem dX4_addWalker_1 : decode cX4_addWalker 1 = .ok (.getfield 18, 3) := by decide +kernel
theorem dX4_addWalker_4 : decode cX4_addWalker 4 = .ok (.iconst 3, 1) := by decide +kernel
theorem dX4_addWalker_5 : decode cX4_addWalker 5 = .ok (.if_icmp .ge 44, 3) := by decide +kernel
theorem dX4_addWalker_8 : decode cX4_addWalker 8 = .ok (.aload_n 0, 1) := by decide +kernel
theorem dX4_addWalker_9 : decode cX4_addWalker 9 = .ok (.getfield 52, 3) := by decide +kernel
theorem dX4_addWalker_12 : decode cX4_addWalker 12 = .ok (.aload_n 0, 1) := by decide +kernel
theorem dX4_addWalker_13 : decode cX4_addWalker 13 = .ok (.getfield 18, 3) := by decide +kernel
theorem dX4_addWalker_16 : decode cX4_addWalker 16 = .ok (.iload_n 1, 1) := by decide +kernel
theorem dX4_addWalker_17 : decode cX4_addWalker 17 = .ok (.iastore, 1) := by decide +kernel
theorem dX4_addWalker_18 : decode cX4_addWalker 18 = .ok (.aload_n 0, 1) := by decide +kernel
theorem dX4_addWalker_19 : decode cX4_addWalker 19 = .ok (.getfield 55, 3) := by decide +kernel
theorem dX4_addWalker_22 : decode cX4_addWalker 22 = .ok (.aload_n 0, 1) := by decide +kernel
theorem dX4_addWalker_23 : decode cX4_addWalker 23 = .ok (.getfield 18, 3) := by decide +kernel
theorem dX4_addWalker_26 : decode cX4_addWalker 26 = .ok (.iload_n 2, 1) := by decide +kernel
theorem dX4_addWalker_27 : decode cX4_addWalker 27 = .ok (.iastore, 1) := by decide +kernel
theorem dX4_addWalker_28 : decode cX4_addWalker 28 = .ok (.aload_n 0, 1) := by decide +kernel
theorem dX4_addWalker_29 : decode cX4_addWalker 29 = .ok (.getfield 58, 3) := by decide +kernel
theorem dX4_addWalker_32 : decode cX4_addWalker 32 = .ok (.aload_n 0, 1) := by decide +kernel
theorem dX4_addWalker_33 : decode cX4_addWalker 33 = .ok (.getfield 18, 3) := by decide +kernel
theorem dX4_addWalker_36 : decode cX4_addWalker 36 = .ok (.ldc 87, 2) := by decide +kernel
theorem dX4_addWalker_38 : decode cX4_addWalker 38 = .ok (.iastore, 1) := by decide +kernel
theorem dX4_addWalker_39 : decode cX4_addWalker 39 = .ok (.aload_n 0, 1) := by decide +kernel
theorem dX4_addWalker_40 : decode cX4_addWalker 40 = .ok (.dup, 1) := by decide +kernel
theorem dX4_addWalker_41 : decode cX4_addWalker 41 = .ok (.getfield 18, 3) := by decide +kernel
theorem dX4_addWalker_44 : decode cX4_addWalker 44 = .ok (.iconst 1, 1) := by decide +kernel
theorem dX4_addWalker_45 : decode cX4_addWalker 45 = .ok (.iadd, 1) := by decide +kernel
theorem dX4_addWalker_46 : decode cX4_addWalker 46 = .ok (.putfield 18, 3) := by decide +kernel
theorem dX4_addWalker_49 : decode cX4_addWalker 49 = .ok (.return_, 1) := by decide +kernel
theorem dX4_isIn_0 : decode cX4_isIn 0 = .ok (.iload_n 0, 1) := by decide +kernel
theorem dX4_isIn_1 : decode cX4_isIn 1 = .ok (.iload_n 1, 1) := by decide +kernel
theorem dX4_isIn_2 : decode cX4_isIn 2 = .ok (.ishr, 1) := by decide +kernel
theorem dX4_isIn_3 : decode cX4_isIn 3 = .ok (.iconst 1, 1) := by decide +kernel
theorem dX4_isIn_4 : decode cX4_isIn 4 = .ok (.iand, 1) := by decide +kernel
theorem dX4_isIn_5 : decode cX4_isIn 5 = .ok (.ifCond .eq 7, 3) := by decide +kernel
theorem dX4_isIn_8 : decode cX4_isIn 8 = .ok (.iconst 1, 1) := by decide +kernel
theorem dX4_isIn_9 : decode cX4_isIn 9 = .ok (.goto 4, 3) := by decide +kernel
theorem dX4_isIn_12 : decode cX4_isIn 12 = .ok (.iconst 0, 1) := by decide +kernel
theorem dX4_isIn_13 : decode cX4_isIn 13 = .ok (.ireturn, 1) := by decide +kernel
theorem lq_X4_isShut_0 {w : Cond} (h : w ∈ ([.fieldLink RX4 24 "WinterWalk$Land" "doorsShut" "I", .methodLink RX4 80 yX4_isIn, .static yX4_isIn, .initialized RX4, .code yX4_isIn cX4_isIn 2 (some .boolean)] : List Cond)) : w ∈ wsX4_isShut := List.mem_cons_of_mem _ (List.mem_append_left _ (h))
theorem lt_X4_isShut_X4 : ∀ w ∈ wsX40, w ∈ wsX4_isShut := fun _ h => List.mem_cons_of_mem _ (List.mem_append_right _ (h))
set_option maxRecDepth 20000 in
theorem ggX4_isShut_X4_isIn : GoodIn wsX4_isShut wsX4_isIn := goodIn_sub (List.forall_mem_cons.mpr ⟨lq_X4_isShut_0 (List.mem_of_getElem? (i := 4) rfl), (show ∀ w ∈ ([] : List Cond), w ∈ wsX4_isShut from fun _ h => absurd h List.not_mem_nil)⟩) (by decide +kernel)
set_option maxRecDepth 20000 in
theorem gX4_isShut_X4_isIn : GoodIn wsX4_isShut (va_wsS RX4 80 yX4_isIn wsX4_isIn) := goodIn_app (goodIn_sub (List.forall_mem_cons.mpr ⟨lq_X4_isShut_0 (List.mem_of_getElem? (i := 1) rfl), List.forall_mem_cons.mpr ⟨lq_X4_isShut_0 (List.mem_of_getElem? (i := 2) rfl), List.forall_mem_cons.mpr ⟨lq_X4_isShut_0 (List.mem_of_getElem? (i := 3) rfl), fun _ h => absurd h List.not_mem_nil⟩⟩⟩) (by decide +kernel)) ggX4_isShut_X4_isIn
theorem dX4_isShut_0 : decode cX4_isShut 0 = .ok (.aload_n 0, 1) := by decide +kernel
theorem dX4_isShut_1 : decode cX4_isShut 1 = .ok (.getfield 24, 3) := by decide +kernel
theorem dX4_isShut_4 : decode cX4_isShut 4 = .ok (.iload_n 1, 1) := by decide +kernel
theorem dX4_isShut_5 : decode cX4_isShut 5 = .ok (.invokestatic 80, 3) := by decide +kernel
theorem dX4_isShut_8 : decode cX4_isShut 8 = .ok (.ireturn, 1) := by decide +kernel
theorem dX4_turnDoor_0 : decode cX4_turnDoor 0 = .ok (.aload_n 0, 1) := by decide +kernel
theorem dX4_turnDoor_1 : decode cX4_turnDoor 1 = .ok (.dup, 1) := by decide +kernel
theorem dX4_turnDoor_2 : decode cX4_turnDoor 2 = .ok (.getfield 24, 3) := by decide +kernel
theorem dX4_turnDoor_5 : decode cX4_turnDoor 5 = .ok (.iconst 1, 1) := by decide +kernel
theorem dX4_turnDoor_6 : decode cX4_turnDoor 6 = .ok (.iload_n 1, 1) := by decide +kernel
theorem dX4_turnDoor_7 : decode cX4_turnDoor 7 = .ok (.ishl, 1) := by decide +kernel
theorem dX4_turnDoor_8 : decode cX4_turnDoor 8 = .ok (.ixor, 1) := by decide +kernel
theorem dX4_turnDoor_9 : decode cX4_turnDoor 9 = .ok (.putfield 24, 3) := by decide +kernel
theorem dX4_turnDoor_12 : decode cX4_turnDoor 12 = .ok (.return_, 1) := by decide +kernel
theorem dX4_frostOf_0 : decode cX4_frostOf 0 = .ok (.iconst 0, 1) := by decide +kernel
theorem dX4_frostOf_1 : decode cX4_frostOf 1 = .ok (.aload_n 0, 1) := by decide +kernel
theorem dX4_frostOf_2 : decode cX4_frostOf 2 = .ok (.getfield 49, 3) := by decide +kernel
theorem dX4_frostOf_5 : decode cX4_frostOf 5 = .ok (.iload_n 1, 1) := by decide +kernel
theorem dX4_frostOf_6 : decode cX4_frostOf 6 = .ok (.iaload, 1) := by decide +kernel
theorem dX4_frostOf_7 : decode cX4_frostOf 7 = .ok (.aload_n 0, 1) := by decide +kernel
theorem dX4_frostOf_8 : decode cX4_frostOf 8 = .ok (.getfield 27, 3) := by decide +kernel
theorem dX4_frostOf_11 : decode cX4_frostOf 11 = .ok (.isub, 1) := by decide +kernel
theorem dX4_frostOf_12 : decode cX4_frostOf 12 = .ok (.invokestatic 88, 3) := by decide +kernel
theorem dX4_frostOf_15 : decode cX4_frostOf 15 = .ok (.ireturn, 1) := by decide +kernel
theorem dX4_frozen_0 : decode cX4_frozen 0 = .ok (.iconst 0, 1) := by decide +kernel
theorem dX4_frozen_1 : decode cX4_frozen 1 = .ok (.istore_n 1, 1) := by decide +kernel
theorem dX4_frozen_2 : decode cX4_frozen 2 = .ok (.iconst 0, 1) := by decide +kernel
theorem dX4_frozen_3 : decode cX4_frozen 3 = .ok (.istore_n 2, 1) := by decide +kernel
theorem dX4_frozen_4 : decode cX4_frozen 4 = .ok (.iload_n 2, 1) := by decide +kernel
theorem dX4_frozen_5 : decode cX4_frozen 5 = .ok (.aload_n 0, 1) := by decide +kernel
theorem dX4_frozen_6 : decode cX4_frozen 6 = .ok (.getfield 9, 3) := by decide +kernel
theorem dX4_frozen_9 : decode cX4_frozen 9 = .ok (.if_icmp .ge 28, 3) := by decide +kernel
theorem dX4_frozen_12 : decode cX4_frozen 12 = .ok (.aload_n 0, 1) := by decide +kernel
theorem dX4_frozen_13 : decode cX4_frozen 13 = .ok (.getfield 49, 3) := by decide +kernel
theorem dX4_frozen_16 : decode cX4_frozen 16 = .ok (.iload_n 2, 1) := by decide +kernel
theorem dX4_frozen_17 : decode cX4_frozen 17 = .ok (.iaload, 1) := by decide +kernel
theorem dX4_frozen_18 : decode cX4_frozen 18 = .ok (.aload_n 0, 1) := by decide +kernel
theorem dX4_frozen_19 : decode cX4_frozen 19 = .ok (.getfield 27, 3) := by decide +kernel
theorem dX4_frozen_22 : decode cX4_frozen 22 = .ok (.if_icmp .le 9, 3) := by decide +kernel
theorem dX4_frozen_25 : decode cX4_frozen 25 = .ok (.iload_n 1, 1) := by decide +kernel
theorem dX4_frozen_26 : decode cX4_frozen 26 = .ok (.iconst 1, 1) := by decide +kernel
theorem dX4_frozen_27 : decode cX4_frozen 27 = .ok (.iload_n 2, 1) := by decide +kernel
theorem dX4_frozen_28 : decode cX4_frozen 28 = .ok (.ishl, 1) := by decide +kernel
theorem dX4_frozen_29 : decode cX4_frozen 29 = .ok (.ior, 1) := by decide +kernel
theorem dX4_frozen_30 : decode cX4_frozen 30 = .ok (.istore_n 1, 1) := by decide +kernel
theorem dX4_frozen_31 : decode cX4_frozen 31 = .ok (.iinc 2 1, 3) := by decide +kernel
theorem dX4_frozen_34 : decode cX4_frozen 34 = .ok (.goto (-30), 3) := by decide +kernel
theorem dX4_frozen_37 : decode cX4_frozen 37 = .ok (.iload_n 1, 1) := by decide +kernel
theorem dX4_frozen_38 : decode cX4_frozen 38 = .ok (.ireturn, 1) := by decide +kernel
theorem lq_X4_thawAll_0 {w : Cond} (h : w ∈ ([.fieldLink RX4 49 "WinterWalk$Land" "thaws" "[I", .methodLink RX4 61 yJ7_fill_53178, .static yJ7_fill_53178, .initialized RJ7, .code yJ7_fill_53178 cJ7_fill_53178 4 none] : List Cond)) : w ∈ wsX4_thawAll := List.mem_cons_of_mem _ (List.mem_append_left _ (h))
theorem lt_X4_thawAll_X4 : ∀ w ∈ wsX40, w ∈ wsX4_thawAll := fun _ h => List.mem_cons_of_mem _ (List.mem_append_right _ (h))
set_option maxRecDepth 20000 in
theorem ggX4_thawAll_J7_fill_53178 : GoodIn wsX4_thawAll wsJ7_fill_53178 := goodIn_sub (List.forall_mem_cons.mpr ⟨lq_X4_thawAll_0 (List.mem_of_getElem? (i := 4) rfl), (show ∀ w ∈ ([] : List Cond), w ∈ wsX4_thawAll from fun _ h => absurd h List.not_mem_nil)⟩) (by decide +kernel)
set_option maxRecDepth 20000 in
theorem gX4_thawAll_J7_fill_53178 : GoodIn wsX4_thawAll (va_wsS RX4 61 yJ7_fill_53178 wsJ7_fill_53178) := goodIn_app (goodIn_sub (List.forall_mem_cons.mpr ⟨lq_X4_thawAll_0 (List.mem_of_getElem? (i := 1) rfl), List.forall_mem_cons.mpr ⟨lq_X4_thawAll_0 (List.mem_of_getElem? (i := 2) rfl), List.forall_mem_cons.mpr ⟨lq_X4_thawAll_0 (List.mem_of_getElem? (i := 3) rfl), fun _ h => absurd h List.not_mem_nil⟩⟩⟩) (by decide +kernel)) ggX4_thawAll_J7_fill_53178
theorem dX4_thawAll_0 : decode cX4_thawAll 0 = .ok (.aload_n 0, 1) := by decide +kernel
theorem dX4_thawAll_1 : decode cX4_thawAll 1 = .ok (.getfield 49, 3) := by decide +kernel
theorem dX4_thawAll_4 : decode cX4_thawAll 4 = .ok (.iconst 0, 1) := by decide +kernel
theorem dX4_thawAll_5 : decode cX4_thawAll 5 = .ok (.invokestatic 61, 3) := by decide +kernel
theorem dX4_thawAll_8 : decode cX4_thawAll 8 = .ok (.return_, 1) := by decide +kernel
theorem lq_X4_passDay_0 {w : Cond} (h : w ∈ (wsX4_passDay_r1 : List Cond)) : w ∈ wsX4_passDay := List.mem_cons_of_mem _ (List.mem_append_left _ (List.mem_append_left _ (h)))
theorem lq_X4_passDay_1 {w : Cond} (h : w ∈ (wsX4_passDay_r2 : List Cond)) : w ∈ wsX4_passDay := List.mem_cons_of_mem _ (List.mem_append_left _ (List.mem_append_right _ (List.mem_append_left _ (h))))
theorem lq_X4_passDay_2 {w : Cond} (h : w ∈ (wsX4_passDay_r3 : List Cond)) : w ∈ wsX4_passDay := List.mem_cons_of_mem _ (List.mem_append_left _ (List.mem_append_right _ (List.mem_append_right _ (h))))
theorem lt_X4_passDay_X4 : ∀ w ∈ wsX40, w ∈ wsX4_passDay := fun _ h => List.mem_cons_of_mem _ (List.mem_append_right _ (h))
set_option maxRecDepth 20000 in
theorem ggX4_passDay_X4_goOnAndSleep : GoodIn wsX4_passDay wsX4_goOnAndSleep := goodIn_sub (List.forall_mem_cons.mpr ⟨lq_X4_passDay_0 (List.mem_of_getElem? (i := 4) rfl), (List.forall_mem_append.mpr ⟨(List.forall_mem_append.mpr ⟨(show ∀ w ∈ (wsX4_goOnAndSleep_r1 : List Cond), w ∈ wsX4_passDay from List.forall_mem_cons.mpr ⟨lq_X4_passDay_0 (List.mem_of_getElem? (i := 5) rfl), List.forall_mem_cons.mpr ⟨lq_X4_passDay_0 (List.mem_of_getElem? (i := 6) rfl), List.forall_mem_cons.mpr ⟨lq_X4_passDay_0 (List.mem_of_getElem? (i := 7) rfl), List.forall_mem_cons.mpr ⟨lq_X4_passDay_0 (List.mem_of_getElem? (i := 8) rfl), List.forall_mem_cons.mpr ⟨lq_X4_passDay_0 (List.mem_of_getElem? (i := 9) rfl), List.forall_mem_cons.mpr ⟨lq_X4_passDay_0 (List.mem_of_getElem? (i := 10) rfl), List.forall_mem_cons.mpr ⟨lq_X4_passDay_0 (List.mem_of_getElem? (i := 11) rfl), List.forall_mem_cons.mpr ⟨lq_X4_passDay_0 (List.mem_of_getElem? (i := 12) rfl), List.forall_mem_cons.mpr ⟨lq_X4_passDay_0 (List.mem_of_getElem? (i := 13) rfl), List.forall_mem_cons.mpr ⟨lq_X4_passDay_0 (List.mem_of_getElem? (i := 14) rfl), List.forall_mem_cons.mpr ⟨lq_X4_passDay_0 (List.mem_of_getElem? (i := 15) rfl), List.forall_mem_cons.mpr ⟨lq_X4_passDay_0 (List.mem_of_getElem? (i := 3) rfl), List.forall_mem_cons.mpr ⟨lq_X4_passDay_0 (List.mem_of_getElem? (i := 16) rfl), List.forall_mem_cons.mpr ⟨lq_X4_passDay_0 (List.mem_of_getElem? (i := 17) rfl), List.forall_mem_cons.mpr ⟨lq_X4_passDay_0 (List.mem_of_getElem? (i := 18) rfl), List.forall_mem_cons.mpr ⟨lq_X4_passDay_0 (List.mem_of_getElem? (i := 19) rfl), List.forall_mem_cons.mpr ⟨lq_X4_passDay_0 (List.mem_of_getElem? (i := 20) rfl), List.forall_mem_cons.mpr ⟨lq_X4_passDay_0 (List.mem_of_getElem? (i := 21) rfl), List.forall_mem_cons.mpr ⟨lq_X4_passDay_0 (List.mem_of_getElem? (i := 22) rfl), List.forall_mem_cons.mpr ⟨lq_X4_passDay_0 (List.mem_of_getElem? (i := 23) rfl), List.forall_mem_cons.mpr ⟨lq_X4_passDay_1 (List.mem_of_getElem? (i := 0) rfl), List.forall_mem_cons.mpr ⟨lq_X4_passDay_1 (List.mem_of_getElem? (i := 1) rfl), List.forall_mem_cons.mpr ⟨lq_X4_passDay_1 (List.mem_of_getElem? (i := 2) rfl), List.forall_mem_cons.mpr ⟨lq_X4_passDay_1 (List.mem_of_getElem? (i := 3) rfl), fun _ h => absurd h List.not_mem_nil⟩⟩⟩⟩⟩⟩⟩⟩⟩⟩⟩⟩⟩⟩⟩⟩⟩⟩⟩⟩⟩⟩⟩⟩), (show ∀ w ∈ (wsX4_goOnAndSleep_r2 : List Cond), w ∈ wsX4_passDay from List.forall_mem_cons.mpr ⟨lq_X4_passDay_1 (List.mem_of_getElem? (i := 4) rfl), List.forall_mem_cons.mpr ⟨lq_X4_passDay_1 (List.mem_of_getElem? (i := 5) rfl), List.forall_mem_cons.mpr ⟨lq_X4_passDay_1 (List.mem_of_getElem? (i := 6) rfl), List.forall_mem_cons.mpr ⟨lq_X4_passDay_1 (List.mem_of_getElem? (i := 7) rfl), List.forall_mem_cons.mpr ⟨lq_X4_passDay_1 (List.mem_of_getElem? (i := 8) rfl), List.forall_mem_cons.mpr ⟨lq_X4_passDay_1 (List.mem_of_getElem? (i := 9) rfl), List.forall_mem_cons.mpr ⟨lq_X4_passDay_1 (List.mem_of_getElem? (i := 10) rfl), List.forall_mem_cons.mpr ⟨lq_X4_passDay_1 (List.mem_of_getElem? (i := 11) rfl), List.forall_mem_cons.mpr ⟨lq_X4_passDay_1 (List.mem_of_getElem? (i := 12) rfl), List.forall_mem_cons.mpr ⟨lq_X4_passDay_1 (List.mem_of_getElem? (i := 13) rfl), List.forall_mem_cons.mpr ⟨lq_X4_passDay_1 (List.mem_of_getElem? (i := 14) rfl), List.forall_mem_cons.mpr ⟨lq_X4_passDay_1 (List.mem_of_getElem? (i := 15) rfl), List.forall_mem_cons.mpr ⟨lq_X4_passDay_1 (List.mem_of_getElem? (i := 16) rfl), List.forall_mem_cons.mpr ⟨lq_X4_passDay_1 (List.mem_of_getElem? (i := 17) rfl), fun _ h => absurd h List.not_mem_nil⟩⟩⟩⟩⟩⟩⟩⟩⟩⟩⟩⟩⟩⟩)⟩), lt_X4_passDay_X4⟩)⟩) (by decide +kernel)
set_option maxRecDepth 20000 in
theorem gX4_passDay_X4_goOnAndSleep : GoodIn wsX4_passDay (wsV RX4 94 RX4 yX4_goOnAndSleep wsX4_goOnAndSleep) := goodIn_app (goodIn_sub (List.forall_mem_cons.mpr ⟨lq_X4_passDay_0 (List.mem_of_getElem? (i := 0) rfl), List.forall_mem_cons.mpr ⟨lq_X4_passDay_0 (List.mem_of_getElem? (i := 1) rfl), List.forall_mem_cons.mpr ⟨lq_X4_passDay_0 (List.mem_of_getElem? (i := 2) rfl), List.forall_mem_cons.mpr ⟨lq_X4_passDay_0 (List.mem_of_getElem? (i := 3) rfl), fun _ h => absurd h List.not_mem_nil⟩⟩⟩⟩) (by decide +kernel)) ggX4_passDay_X4_goOnAndSleep
set_option maxRecDepth 20000 in
theorem ggX4_passDay_X4_layFrost : GoodIn wsX4_passDay wsX4_layFrost := goodIn_sub (List.forall_mem_cons.mpr ⟨lq_X4_passDay_1 (List.mem_of_getElem? (i := 21) rfl), (List.forall_mem_append.mpr ⟨(show ∀ w ∈ ([.fieldLink RX4 18 "WinterWalk$Land" "walkers" "I", .fieldLink RX4 49 "WinterWalk$Land" "thaws" "[I", .fieldLink RX4 55 "WinterWalk$Land" "at" "[I", .fieldLink RX4 27 "WinterWalk$Land" "day" "I", .fieldLink RX4 21 "WinterWalk$Land" "lasts" "I", .fieldLink RX4 9 "WinterWalk$Land" "villages" "I", .fieldLink RX4 43 "WinterWalk$Land" "roads" "[I", .methodLink RX4 88 Lib.Math.max.name, .static Lib.Math.max.name, .initialized "java/lang/Math", .code Lib.Math.max.name Lib.Math.max.code 2 (some .int), .methodLink RX4 80 yX4_isIn, .static yX4_isIn, .initialized RX4, .code yX4_isIn cX4_isIn 2 (some .boolean)] : List Cond), w ∈ wsX4_passDay from List.forall_mem_cons.mpr ⟨lq_X4_passDay_0 (List.mem_of_getElem? (i := 5) rfl), List.forall_mem_cons.mpr ⟨lq_X4_passDay_1 (List.mem_of_getElem? (i := 22) rfl), List.forall_mem_cons.mpr ⟨lq_X4_passDay_0 (List.mem_of_getElem? (i := 7) rfl), List.forall_mem_cons.mpr ⟨lq_X4_passDay_0 (List.mem_of_getElem? (i := 12) rfl), List.forall_mem_cons.mpr ⟨lq_X4_passDay_1 (List.mem_of_getElem? (i := 23) rfl), List.forall_mem_cons.mpr ⟨lq_X4_passDay_1 (List.mem_of_getElem? (i := 0) rfl), List.forall_mem_cons.mpr ⟨lq_X4_passDay_0 (List.mem_of_getElem? (i := 17) rfl), List.forall_mem_cons.mpr ⟨lq_X4_passDay_2 (List.mem_of_getElem? (i := 0) rfl), List.forall_mem_cons.mpr ⟨lq_X4_passDay_2 (List.mem_of_getElem? (i := 1) rfl), List.forall_mem_cons.mpr ⟨lq_X4_passDay_2 (List.mem_of_getElem? (i := 2) rfl), List.forall_mem_cons.mpr ⟨lq_X4_passDay_2 (List.mem_of_getElem? (i := 3) rfl), List.forall_mem_cons.mpr ⟨lq_X4_passDay_2 (List.mem_of_getElem? (i := 4) rfl), List.forall_mem_cons.mpr ⟨lq_X4_passDay_2 (List.mem_of_getElem? (i := 5) rfl), List.forall_mem_cons.mpr ⟨lq_X4_passDay_0 (List.mem_of_getElem? (i := 3) rfl), List.forall_mem_cons.mpr ⟨lq_X4_passDay_2 (List.mem_of_getElem? (i := 6) rfl), fun _ h => absurd h List.not_mem_nil⟩⟩⟩⟩⟩⟩⟩⟩⟩⟩⟩⟩⟩⟩⟩), lt_X4_passDay_X4⟩)⟩) (by decide +kernel)
set_option maxRecDepth 20000 in
theorem gX4_passDay_X4_layFrost : GoodIn wsX4_passDay (wsV RX4 97 RX4 yX4_layFrost wsX4_layFrost) := goodIn_app (goodIn_sub (List.forall_mem_cons.mpr ⟨lq_X4_passDay_1 (List.mem_of_getElem? (i := 18) rfl), List.forall_mem_cons.mpr ⟨lq_X4_passDay_1 (List.mem_of_getElem? (i := 19) rfl), List.forall_mem_cons.mpr ⟨lq_X4_passDay_1 (List.mem_of_getElem? (i := 20) rfl), List.forall_mem_cons.mpr ⟨lq_X4_passDay_0 (List.mem_of_getElem? (i := 3) rfl), fun _ h => absurd h List.not_mem_nil⟩⟩⟩⟩) (by decide +kernel)) ggX4_passDay_X4_layFrost
theorem dX4_passDay_0 : decode cX4_passDay 0 = .ok (.aload_n 0, 1) := by decide +kernel
theorem dX4_passDay_1 : decode cX4_passDay 1 = .ok (.invokevirtual 94, 3) := by decide +kernel
theorem dX4_passDay_4 : decode cX4_passDay 4 = .ok (.aload_n 0, 1) := by decide +kernel
theorem dX4_passDay_5 : decode cX4_passDay 5 = .ok (.invokevirtual 97, 3) := by decide +kernel
theorem dX4_passDay_8 : decode cX4_passDay 8 = .ok (.return_, 1) := by decide +kernel
theorem lq_X4_goOnAndSleep_0 {w : Cond} (h : w ∈ (wsX4_goOnAndSleep_r1 : List Cond)) : w ∈ wsX4_goOnAndSleep := List.mem_cons_of_mem _ (List.mem_append_left _ (List.mem_append_left _ (h)))
theorem lq_X4_goOnAndSleep_1 {w : Cond} (h : w ∈ (wsX4_goOnAndSleep_r2 : List Cond)) : w ∈ wsX4_goOnAndSleep := List.mem_cons_of_mem _ (List.mem_append_left _ (List.mem_append_right _ (h)))
theorem lt_X4_goOnAndSleep_X4 : ∀ w ∈ wsX40, w ∈ wsX4_goOnAndSleep := fun _ h => List.mem_cons_of_mem _ (List.mem_append_right _ (h))
set_option maxRecDepth 20000 in
theorem ggX4_goOnAndSleep_X4_goesTo : GoodIn wsX4_goOnAndSleep wsX4_goesTo := goodIn_sub (List.forall_mem_cons.mpr ⟨lq_X4_goOnAndSleep_0 (List.mem_of_getElem? (i := 12) rfl), (List.forall_mem_append.mpr ⟨(show ∀ w ∈ ([.fieldLink RX4 55 "WinterWalk$Land" "at" "[I", .fieldLink RX4 43 "WinterWalk$Land" "roads" "[I", .fieldLink RX4 24 "WinterWalk$Land" "doorsShut" "I", .fieldLink RX4 52 "WinterWalk$Land" "kinds" "[I", .fieldLink RX4 27 "WinterWalk$Land" "day" "I", .fieldLink RX4 58 "WinterWalk$Land" "before" "[I", .methodLink RX4 110 yX4_greatestOffer, .instanceMethod yX4_greatestOffer, .selects RX4 yX4_greatestOffer yX4_greatestOffer, .initialized RX4, .code yX4_greatestOffer cX4_greatestOffer 6 (some .int), .fieldLink RX4 9 "WinterWalk$Land" "villages" "I", .fieldLink RX4 40 "WinterWalk$Land" "offers" "[I", .methodLink RX4 113 yX4_withoutWayBack, .static yX4_withoutWayBack, .code yX4_withoutWayBack cX4_withoutWayBack 3 (some .int), .constant RX4 87 (-1000000), .methodLink RX4 116 yX4_fewestNights, .instanceMethod yX4_fewestNights, .selects RX4 yX4_fewestNights yX4_fewestNights, .code yX4_fewestNights cX4_fewestNights 6 (some .int), .constant RX4 119 (1000000), .fieldLink RX4 46 "WinterWalk$Land" "nightsIn" "[I"] : List Cond), w ∈ wsX4_goOnAndSleep from List.forall_mem_cons.mpr ⟨lq_X4_goOnAndSleep_0 (List.mem_of_getElem? (i := 2) rfl), List.forall_mem_cons.mpr ⟨lq_X4_goOnAndSleep_0 (List.mem_of_getElem? (i := 13) rfl), List.forall_mem_cons.mpr ⟨lq_X4_goOnAndSleep_0 (List.mem_of_getElem? (i := 14) rfl), List.forall_mem_cons.mpr ⟨lq_X4_goOnAndSleep_0 (List.mem_of_getElem? (i := 15) rfl), List.forall_mem_cons.mpr ⟨lq_X4_goOnAndSleep_0 (List.mem_of_getElem? (i := 7) rfl), List.forall_mem_cons.mpr ⟨lq_X4_goOnAndSleep_0 (List.mem_of_getElem? (i := 1) rfl), List.forall_mem_cons.mpr ⟨lq_X4_goOnAndSleep_0 (List.mem_of_getElem? (i := 16) rfl), List.forall_mem_cons.mpr ⟨lq_X4_goOnAndSleep_0 (List.mem_of_getElem? (i := 17) rfl), List.forall_mem_cons.mpr ⟨lq_X4_goOnAndSleep_0 (List.mem_of_getElem? (i := 18) rfl), List.forall_mem_cons.mpr ⟨lq_X4_goOnAndSleep_0 (List.mem_of_getElem? (i := 11) rfl), List.forall_mem_cons.mpr ⟨lq_X4_goOnAndSleep_0 (List.mem_of_getElem? (i := 19) rfl), List.forall_mem_cons.mpr ⟨lq_X4_goOnAndSleep_0 (List.mem_of_getElem? (i := 20) rfl), List.forall_mem_cons.mpr ⟨lq_X4_goOnAndSleep_0 (List.mem_of_getElem? (i := 21) rfl), List.forall_mem_cons.mpr ⟨lq_X4_goOnAndSleep_0 (List.mem_of_getElem? (i := 22) rfl), List.forall_mem_cons.mpr ⟨lq_X4_goOnAndSleep_0 (List.mem_of_getElem? (i := 23) rfl), List.forall_mem_cons.mpr ⟨lq_X4_goOnAndSleep_1 (List.mem_of_getElem? (i := 0) rfl), List.forall_mem_cons.mpr ⟨lq_X4_goOnAndSleep_1 (List.mem_of_getElem? (i := 1) rfl), List.forall_mem_cons.mpr ⟨lq_X4_goOnAndSleep_1 (List.mem_of_getElem? (i := 2) rfl), List.forall_mem_cons.mpr ⟨lq_X4_goOnAndSleep_1 (List.mem_of_getElem? (i := 3) rfl), List.forall_mem_cons.mpr ⟨lq_X4_goOnAndSleep_1 (List.mem_of_getElem? (i := 4) rfl), List.forall_mem_cons.mpr ⟨lq_X4_goOnAndSleep_1 (List.mem_of_getElem? (i := 5) rfl), List.forall_mem_cons.mpr ⟨lq_X4_goOnAndSleep_1 (List.mem_of_getElem? (i := 6) rfl), List.forall_mem_cons.mpr ⟨lq_X4_goOnAndSleep_0 (List.mem_of_getElem? (i := 3) rfl), fun _ h => absurd h List.not_mem_nil⟩⟩⟩⟩⟩⟩⟩⟩⟩⟩⟩⟩⟩⟩⟩⟩⟩⟩⟩⟩⟩⟩⟩), lt_X4_goOnAndSleep_X4⟩)⟩) (by decide +kernel)
set_option maxRecDepth 20000 in
theorem gX4_goOnAndSleep_X4_goesTo : GoodIn wsX4_goOnAndSleep (wsV RX4 100 RX4 yX4_goesTo wsX4_goesTo) := goodIn_app (goodIn_sub (List.forall_mem_cons.mpr ⟨lq_X4_goOnAndSleep_0 (List.mem_of_getElem? (i := 8) rfl), List.forall_mem_cons.mpr ⟨lq_X4_goOnAndSleep_0 (List.mem_of_getElem? (i := 9) rfl), List.forall_mem_cons.mpr ⟨lq_X4_goOnAndSleep_0 (List.mem_of_getElem? (i := 10) rfl), List.forall_mem_cons.mpr ⟨lq_X4_goOnAndSleep_0 (List.mem_of_getElem? (i := 11) rfl), fun _ h => absurd h List.not_mem_nil⟩⟩⟩⟩) (by decide +kernel)) ggX4_goOnAndSleep_X4_goesTo
set_option maxRecDepth 20000 in
theorem ggX4_goOnAndSleep_X4_paidTo : GoodIn wsX4_goOnAndSleep wsX4_paidTo := goodIn_sub (List.forall_mem_cons.mpr ⟨lq_X4_goOnAndSleep_1 (List.mem_of_getElem? (i := 10) rfl), (List.forall_mem_append.mpr ⟨(show ∀ w ∈ ([.fieldLink RX4 52 "WinterWalk$Land" "kinds" "[I", .fieldLink RX4 40 "WinterWalk$Land" "offers" "[I", .fieldLink RX4 55 "WinterWalk$Land" "at" "[I", .methodLink RX4 107 yX4_isPaid, .static yX4_isPaid, .initialized RX4, .code yX4_isPaid cX4_isPaid 1 (some .boolean)] : List Cond), w ∈ wsX4_goOnAndSleep from List.forall_mem_cons.mpr ⟨lq_X4_goOnAndSleep_0 (List.mem_of_getElem? (i := 15) rfl), List.forall_mem_cons.mpr ⟨lq_X4_goOnAndSleep_0 (List.mem_of_getElem? (i := 21) rfl), List.forall_mem_cons.mpr ⟨lq_X4_goOnAndSleep_0 (List.mem_of_getElem? (i := 2) rfl), List.forall_mem_cons.mpr ⟨lq_X4_goOnAndSleep_1 (List.mem_of_getElem? (i := 11) rfl), List.forall_mem_cons.mpr ⟨lq_X4_goOnAndSleep_1 (List.mem_of_getElem? (i := 12) rfl), List.forall_mem_cons.mpr ⟨lq_X4_goOnAndSleep_0 (List.mem_of_getElem? (i := 11) rfl), List.forall_mem_cons.mpr ⟨lq_X4_goOnAndSleep_1 (List.mem_of_getElem? (i := 13) rfl), fun _ h => absurd h List.not_mem_nil⟩⟩⟩⟩⟩⟩⟩), lt_X4_goOnAndSleep_X4⟩)⟩) (by decide +kernel)
set_option maxRecDepth 20000 in
theorem gX4_goOnAndSleep_X4_paidTo : GoodIn wsX4_goOnAndSleep (wsV RX4 104 RX4 yX4_paidTo wsX4_paidTo) := goodIn_app (goodIn_sub (List.forall_mem_cons.mpr ⟨lq_X4_goOnAndSleep_1 (List.mem_of_getElem? (i := 7) rfl), List.forall_mem_cons.mpr ⟨lq_X4_goOnAndSleep_1 (List.mem_of_getElem? (i := 8) rfl), List.forall_mem_cons.mpr ⟨lq_X4_goOnAndSleep_1 (List.mem_of_getElem? (i := 9) rfl), List.forall_mem_cons.mpr ⟨lq_X4_goOnAndSleep_0 (List.mem_of_getElem? (i := 11) rfl), fun _ h => absurd h List.not_mem_nil⟩⟩⟩⟩) (by decide +kernel)) ggX4_goOnAndSleep_X4_paidTo
theorem dX4_goOnAndSleep_0 : decode cX4_goOnAndSleep 0 = .ok (.iconst 0, 1) := by decide +kernel
theorem dX4_goOnAndSleep_1 : decode cX4_goOnAndSleep 1 = .ok (.istore_n 1, 1) := by decide +kernel
theorem dX4_goOnAndSleep_2 : decode cX4_goOnAndSleep 2 = .ok (.iload_n 1, 1) := by decide +kernel
theorem dX4_goOnAndSleep_3 : decode cX4_goOnAndSleep 3 = .ok (.aload_n 0, 1) := by decide +kernel
theorem dX4_goOnAndSleep_4 : decode cX4_goOnAndSleep 4 = .ok (.getfield 18, 3) := by decide +kernel
theorem dX4_goOnAndSleep_7 : decode cX4_goOnAndSleep 7 = .ok (.if_icmp .ge 73, 3) := by decide +kernel
theorem dX4_goOnAndSleep_10 : decode cX4_goOnAndSleep 10 = .ok (.aload_n 0, 1) := by decide +kernel
theorem dX4_goOnAndSleep_11 : decode cX4_goOnAndSleep 11 = .ok (.iload_n 1, 1) := by decide +kernel
theorem dX4_goOnAndSleep_12 : decode cX4_goOnAndSleep 12 = .ok (.invokevirtual 100, 3) := by decide +kernel
theorem dX4_goOnAndSleep_15 : decode cX4_goOnAndSleep 15 = .ok (.istore_n 2, 1) := by decide +kernel
theorem dX4_goOnAndSleep_16 : decode cX4_goOnAndSleep 16 = .ok (.aload_n 0, 1) := by decide +kernel
theorem dX4_goOnAndSleep_17 : decode cX4_goOnAndSleep 17 = .ok (.getfield 58, 3) := by decide +kernel
theorem dX4_goOnAndSleep_20 : decode cX4_goOnAndSleep 20 = .ok (.iload_n 1, 1) := by decide +kernel
theorem dX4_goOnAndSleep_21 : decode cX4_goOnAndSleep 21 = .ok (.aload_n 0, 1) := by decide +kernel
theorem dX4_goOnAndSleep_22 : decode cX4_goOnAndSleep 22 = .ok (.getfield 55, 3) := by decide +kernel
theorem dX4_goOnAndSleep_25 : decode cX4_goOnAndSleep 25 = .ok (.iload_n 1, 1) := by decide +kernel
theorem dX4_goOnAndSleep_26 : decode cX4_goOnAndSleep 26 = .ok (.iaload, 1) := by decide +kernel
theorem dX4_goOnAndSleep_27 : decode cX4_goOnAndSleep 27 = .ok (.iastore, 1) := by decide +kernel
theorem dX4_goOnAndSleep_28 : decode cX4_goOnAndSleep 28 = .ok (.aload_n 0, 1) := by decide +kernel
theorem dX4_goOnAndSleep_29 : decode cX4_goOnAndSleep 29 = .ok (.getfield 55, 3) := by decide +kernel
theorem dX4_goOnAndSleep_32 : decode cX4_goOnAndSleep 32 = .ok (.iload_n 1, 1) := by decide +kernel
theorem dX4_goOnAndSleep_33 : decode cX4_goOnAndSleep 33 = .ok (.iload_n 2, 1) := by decide +kernel
theorem dX4_goOnAndSleep_34 : decode cX4_goOnAndSleep 34 = .ok (.iastore, 1) := by decide +kernel
theorem dX4_goOnAndSleep_35 : decode cX4_goOnAndSleep 35 = .ok (.aload_n 0, 1) := by decide +kernel
theorem dX4_goOnAndSleep_36 : decode cX4_goOnAndSleep 36 = .ok (.getfield 46, 3) := by decide +kernel
theorem dX4_goOnAndSleep_39 : decode cX4_goOnAndSleep 39 = .ok (.iload_n 2, 1) := by decide +kernel
theorem dX4_goOnAndSleep_40 : decode cX4_goOnAndSleep 40 = .ok (.dup2, 1) := by decide +kernel
theorem dX4_goOnAndSleep_41 : decode cX4_goOnAndSleep 41 = .ok (.iaload, 1) := by decide +kernel
theorem dX4_goOnAndSleep_42 : decode cX4_goOnAndSleep 42 = .ok (.iconst 1, 1) := by decide +kernel
theorem dX4_goOnAndSleep_43 : decode cX4_goOnAndSleep 43 = .ok (.iadd, 1) := by decide +kernel
theorem dX4_goOnAndSleep_44 : decode cX4_goOnAndSleep 44 = .ok (.iastore, 1) := by decide +kernel
theorem dX4_goOnAndSleep_45 : decode cX4_goOnAndSleep 45 = .ok (.aload_n 0, 1) := by decide +kernel
theorem dX4_goOnAndSleep_46 : decode cX4_goOnAndSleep 46 = .ok (.dup, 1) := by decide +kernel
theorem dX4_goOnAndSleep_47 : decode cX4_goOnAndSleep 47 = .ok (.getfield 30, 3) := by decide +kernel
theorem dX4_goOnAndSleep_50 : decode cX4_goOnAndSleep 50 = .ok (.aload_n 0, 1) := by decide +kernel
theorem dX4_goOnAndSleep_51 : decode cX4_goOnAndSleep 51 = .ok (.getfield 36, 3) := by decide +kernel
theorem dX4_goOnAndSleep_54 : decode cX4_goOnAndSleep 54 = .ok (.iload_n 2, 1) := by decide +kernel
theorem dX4_goOnAndSleep_55 : decode cX4_goOnAndSleep 55 = .ok (.iaload, 1) := by decide +kernel
theorem dX4_goOnAndSleep_56 : decode cX4_goOnAndSleep 56 = .ok (.iadd, 1) := by decide +kernel
theorem dX4_goOnAndSleep_57 : decode cX4_goOnAndSleep 57 = .ok (.putfield 30, 3) := by decide +kernel
theorem dX4_goOnAndSleep_60 : decode cX4_goOnAndSleep 60 = .ok (.aload_n 0, 1) := by decide +kernel
theorem dX4_goOnAndSleep_61 : decode cX4_goOnAndSleep 61 = .ok (.dup, 1) := by decide +kernel
theorem dX4_goOnAndSleep_62 : decode cX4_goOnAndSleep 62 = .ok (.getfield 33, 3) := by decide +kernel
theorem dX4_goOnAndSleep_65 : decode cX4_goOnAndSleep 65 = .ok (.aload_n 0, 1) := by decide +kernel
theorem dX4_goOnAndSleep_66 : decode cX4_goOnAndSleep 66 = .ok (.iload_n 1, 1) := by decide +kernel
theorem dX4_goOnAndSleep_67 : decode cX4_goOnAndSleep 67 = .ok (.invokevirtual 104, 3) := by decide +kernel
theorem dX4_goOnAndSleep_70 : decode cX4_goOnAndSleep 70 = .ok (.iadd, 1) := by decide +kernel
theorem dX4_goOnAndSleep_71 : decode cX4_goOnAndSleep 71 = .ok (.putfield 33, 3) := by decide +kernel
theorem dX4_goOnAndSleep_74 : decode cX4_goOnAndSleep 74 = .ok (.iinc 1 1, 3) := by decide +kernel
theorem dX4_goOnAndSleep_77 : decode cX4_goOnAndSleep 77 = .ok (.goto (-75), 3) := by decide +kernel
theorem dX4_goOnAndSleep_80 : decode cX4_goOnAndSleep 80 = .ok (.aload_n 0, 1) := by decide +kernel
theorem dX4_goOnAndSleep_81 : decode cX4_goOnAndSleep 81 = .ok (.dup, 1) := by decide +kernel
theorem dX4_goOnAndSleep_82 : decode cX4_goOnAndSleep 82 = .ok (.getfield 27, 3) := by decide +kernel
theorem dX4_goOnAndSleep_85 : decode cX4_goOnAndSleep 85 = .ok (.iconst 1, 1) := by decide +kernel
theorem dX4_goOnAndSleep_86 : decode cX4_goOnAndSleep 86 = .ok (.iadd, 1) := by decide +kernel
theorem dX4_goOnAndSleep_87 : decode cX4_goOnAndSleep 87 = .ok (.putfield 27, 3) := by decide +kernel
theorem dX4_goOnAndSleep_90 : decode cX4_goOnAndSleep 90 = .ok (.return_, 1) := by decide +kernel
theorem lq_X4_layFrost_0 {w : Cond} (h : w ∈ ([.fieldLink RX4 18 "WinterWalk$Land" "walkers" "I", .fieldLink RX4 49 "WinterWalk$Land" "thaws" "[I", .fieldLink RX4 55 "WinterWalk$Land" "at" "[I", .fieldLink RX4 27 "WinterWalk$Land" "day" "I", .fieldLink RX4 21 "WinterWalk$Land" "lasts" "I", .fieldLink RX4 9 "WinterWalk$Land" "villages" "I", .fieldLink RX4 43 "WinterWalk$Land" "roads" "[I", .methodLink RX4 88 Lib.Math.max.name, .static Lib.Math.max.name, .initialized "java/lang/Math", .code Lib.Math.max.name Lib.Math.max.code 2 (some .int), .methodLink RX4 80 yX4_isIn, .static yX4_isIn, .initialized RX4, .code yX4_isIn cX4_isIn 2 (some .boolean)] : List Cond)) : w ∈ wsX4_layFrost := List.mem_cons_of_mem _ (List.mem_append_left _ (h))
theorem lt_X4_layFrost_X4 : ∀ w ∈ wsX40, w ∈ wsX4_layFrost := fun _ h => List.mem_cons_of_mem _ (List.mem_append_right _ (h))
set_option maxRecDepth 20000 in
theorem ggX4_layFrost_X4_isIn : GoodIn wsX4_layFrost wsX4_isIn := goodIn_sub (List.forall_mem_cons.mpr ⟨lq_X4_layFrost_0 (List.mem_of_getElem? (i := 14) rfl), (show ∀ w ∈ ([] : List Cond), w ∈ wsX4_layFrost from fun _ h => absurd h List.not_mem_nil)⟩) (by decide +kernel)
set_option maxRecDepth 20000 in
theorem gX4_layFrost_X4_isIn : GoodIn wsX4_layFrost (va_wsS RX4 80 yX4_isIn wsX4_isIn) := goodIn_app (goodIn_sub (List.forall_mem_cons.mpr ⟨lq_X4_layFrost_0 (List.mem_of_getElem? (i := 11) rfl), List.forall_mem_cons.mpr ⟨lq_X4_layFrost_0 (List.mem_of_getElem? (i := 12) rfl), List.forall_mem_cons.mpr ⟨lq_X4_layFrost_0 (List.mem_of_getElem? (i := 13) rfl), fun _ h => absurd h List.not_mem_nil⟩⟩⟩) (by decide +kernel)) ggX4_layFrost_X4_isIn
theorem dX4_layFrost_0 : decode cX4_layFrost 0 = .ok (.iconst 0, 1) := by decide +kernel
theorem dX4_layFrost_1 : decode cX4_layFrost 1 = .ok (.istore_n 1, 1) := by decide +kernel
theorem dX4_layFrost_2 : decode cX4_layFrost 2 = .ok (.iload_n 1, 1) := by decide +kernel
theorem dX4_layFrost_3 : decode cX4_layFrost 3 = .ok (.aload_n 0, 1) := by decide +kernel
theorem dX4_layFrost_4 : decode cX4_layFrost 4 = .ok (.getfield 18, 3) := by decide +kernel
theorem dX4_layFrost_7 : decode cX4_layFrost 7 = .ok (.if_icmp .ge 84, 3) := by decide +kernel
theorem dX4_layFrost_10 : decode cX4_layFrost 10 = .ok (.aload_n 0, 1) := by decide +kernel
theorem dX4_layFrost_11 : decode cX4_layFrost 11 = .ok (.getfield 49, 3) := by decide +kernel
theorem dX4_layFrost_14 : decode cX4_layFrost 14 = .ok (.aload_n 0, 1) := by decide +kernel
theorem dX4_layFrost_15 : decode cX4_layFrost 15 = .ok (.getfield 55, 3) := by decide +kernel
theorem dX4_layFrost_18 : decode cX4_layFrost 18 = .ok (.iload_n 1, 1) := by decide +kernel
theorem dX4_layFrost_19 : decode cX4_layFrost 19 = .ok (.iaload, 1) := by decide +kernel
theorem dX4_layFrost_20 : decode cX4_layFrost 20 = .ok (.aload_n 0, 1) := by decide +kernel
theorem dX4_layFrost_21 : decode cX4_layFrost 21 = .ok (.getfield 27, 3) := by decide +kernel
theorem dX4_layFrost_24 : decode cX4_layFrost 24 = .ok (.aload_n 0, 1) := by decide +kernel
theorem dX4_layFrost_25 : decode cX4_layFrost 25 = .ok (.getfield 21, 3) := by decide +kernel
theorem dX4_layFrost_28 : decode cX4_layFrost 28 = .ok (.iadd, 1) := by decide +kernel
theorem dX4_layFrost_29 : decode cX4_layFrost 29 = .ok (.iastore, 1) := by decide +kernel
theorem dX4_layFrost_30 : decode cX4_layFrost 30 = .ok (.iconst 0, 1) := by decide +kernel
theorem dX4_layFrost_31 : decode cX4_layFrost 31 = .ok (.istore_n 2, 1) := by decide +kernel
theorem dX4_layFrost_32 : decode cX4_layFrost 32 = .ok (.iload_n 2, 1) := by decide +kernel
theorem dX4_layFrost_33 : decode cX4_layFrost 33 = .ok (.aload_n 0, 1) := by decide +kernel
theorem dX4_layFrost_34 : decode cX4_layFrost 34 = .ok (.getfield 9, 3) := by decide +kernel
theorem dX4_layFrost_37 : decode cX4_layFrost 37 = .ok (.if_icmp .ge 48, 3) := by decide +kernel
theorem dX4_layFrost_40 : decode cX4_layFrost 40 = .ok (.aload_n 0, 1) := by decide +kernel
theorem dX4_layFrost_41 : decode cX4_layFrost 41 = .ok (.getfield 43, 3) := by decide +kernel
theorem dX4_layFrost_44 : decode cX4_layFrost 44 = .ok (.aload_n 0, 1) := by decide +kernel
theorem dX4_layFrost_45 : decode cX4_layFrost 45 = .ok (.getfield 55, 3) := by decide +kernel
theorem dX4_layFrost_48 : decode cX4_layFrost 48 = .ok (.iload_n 1, 1) := by decide +kernel
theorem dX4_layFrost_49 : decode cX4_layFrost 49 = .ok (.iaload, 1) := by decide +kernel
theorem dX4_layFrost_50 : decode cX4_layFrost 50 = .ok (.iaload, 1) := by decide +kernel
theorem dX4_layFrost_51 : decode cX4_layFrost 51 = .ok (.iload_n 2, 1) := by decide +kernel
theorem dX4_layFrost_52 : decode cX4_layFrost 52 = .ok (.invokestatic 80, 3) := by decide +kernel
theorem dX4_layFrost_55 : decode cX4_layFrost 55 = .ok (.ifCond .eq 24, 3) := by decide +kernel
theorem dX4_layFrost_58 : decode cX4_layFrost 58 = .ok (.aload_n 0, 1) := by decide +kernel
theorem dX4_layFrost_59 : decode cX4_layFrost 59 = .ok (.getfield 49, 3) := by decide +kernel
theorem dX4_layFrost_62 : decode cX4_layFrost 62 = .ok (.iload_n 2, 1) := by decide +kernel
theorem dX4_layFrost_63 : decode cX4_layFrost 63 = .ok (.aload_n 0, 1) := by decide +kernel
theorem dX4_layFrost_64 : decode cX4_layFrost 64 = .ok (.getfield 49, 3) := by decide +kernel
theorem dX4_layFrost_67 : decode cX4_layFrost 67 = .ok (.iload_n 2, 1) := by decide +kernel
theorem dX4_layFrost_68 : decode cX4_layFrost 68 = .ok (.iaload, 1) := by decide +kernel
theorem dX4_layFrost_69 : decode cX4_layFrost 69 = .ok (.aload_n 0, 1) := by decide +kernel
theorem dX4_layFrost_70 : decode cX4_layFrost 70 = .ok (.getfield 27, 3) := by decide +kernel
theorem dX4_layFrost_73 : decode cX4_layFrost 73 = .ok (.iconst 1, 1) := by decide +kernel
theorem dX4_layFrost_74 : decode cX4_layFrost 74 = .ok (.iadd, 1) := by decide +kernel
theorem dX4_layFrost_75 : decode cX4_layFrost 75 = .ok (.invokestatic 88, 3) := by decide +kernel
theorem dX4_layFrost_78 : decode cX4_layFrost 78 = .ok (.iastore, 1) := by decide +kernel
theorem dX4_layFrost_79 : decode cX4_layFrost 79 = .ok (.iinc 2 1, 3) := by decide +kernel
theorem dX4_layFrost_82 : decode cX4_layFrost 82 = .ok (.goto (-50), 3) := by decide +kernel
theorem dX4_layFrost_85 : decode cX4_layFrost 85 = .ok (.iinc 1 1, 3) := by decide +kernel
theorem dX4_layFrost_88 : decode cX4_layFrost 88 = .ok (.goto (-86), 3) := by decide +kernel
theorem dX4_layFrost_91 : decode cX4_layFrost 91 = .ok (.return_, 1) := by decide +kernel
theorem lq_X4_paidTo_0 {w : Cond} (h : w ∈ ([.fieldLink RX4 52 "WinterWalk$Land" "kinds" "[I", .fieldLink RX4 40 "WinterWalk$Land" "offers" "[I", .fieldLink RX4 55 "WinterWalk$Land" "at" "[I", .methodLink RX4 107 yX4_isPaid, .static yX4_isPaid, .initialized RX4, .code yX4_isPaid cX4_isPaid 1 (some .boolean)] : List Cond)) : w ∈ wsX4_paidTo := List.mem_cons_of_mem _ (List.mem_append_left _ (h))
theorem lt_X4_paidTo_X4 : ∀ w ∈ wsX40, w ∈ wsX4_paidTo := fun _ h => List.mem_cons_of_mem _ (List.mem_append_right _ (h))
set_option maxRecDepth 20000 in
theorem ggX4_paidTo_X4_isPaid : GoodIn wsX4_paidTo wsX4_isPaid := goodIn_sub (List.forall_mem_cons.mpr ⟨lq_X4_paidTo_0 (List.mem_of_getElem? (i := 6) rfl), (show ∀ w ∈ ([] : List Cond), w ∈ wsX4_paidTo from fun _ h => absurd h List.not_mem_nil)⟩) (by decide +kernel)
set_option maxRecDepth 20000 in
theorem gX4_paidTo_X4_isPaid : GoodIn wsX4_paidTo (va_wsS RX4 107 yX4_isPaid wsX4_isPaid) := goodIn_app (goodIn_sub (List.forall_mem_cons.mpr ⟨lq_X4_paidTo_0 (List.mem_of_getElem? (i := 3) rfl), List.forall_mem_cons.mpr ⟨lq_X4_paidTo_0 (List.mem_of_getElem? (i := 4) rfl), List.forall_mem_cons.mpr ⟨lq_X4_paidTo_0 (List.mem_of_getElem? (i := 5) rfl), fun _ h => absurd h List.not_mem_nil⟩⟩⟩) (by decide +kernel)) ggX4_paidTo_X4_isPaid
theorem dX4_paidTo_0 : decode cX4_paidTo 0 = .ok (.aload_n 0, 1) := by decide +kernel
theorem dX4_paidTo_1 : decode cX4_paidTo 1 = .ok (.getfield 52, 3) := by decide +kernel
theorem dX4_paidTo_4 : decode cX4_paidTo 4 = .ok (.iload_n 1, 1) := by decide +kernel
theorem dX4_paidTo_5 : decode cX4_paidTo 5 = .ok (.iaload, 1) := by decide +kernel
theorem dX4_paidTo_6 : decode cX4_paidTo 6 = .ok (.invokestatic 107, 3) := by decide +kernel
theorem dX4_paidTo_9 : decode cX4_paidTo 9 = .ok (.ifCond .eq 17, 3) := by decide +kernel
theorem dX4_paidTo_12 : decode cX4_paidTo 12 = .ok (.aload_n 0, 1) := by decide +kernel
theorem dX4_paidTo_13 : decode cX4_paidTo 13 = .ok (.getfield 40, 3) := by decide +kernel
theorem dX4_paidTo_16 : decode cX4_paidTo 16 = .ok (.aload_n 0, 1) := by decide +kernel
theorem dX4_paidTo_17 : decode cX4_paidTo 17 = .ok (.getfield 55, 3) := by decide +kernel
theorem dX4_paidTo_20 : decode cX4_paidTo 20 = .ok (.iload_n 1, 1) := by decide +kernel
theorem dX4_paidTo_21 : decode cX4_paidTo 21 = .ok (.iaload, 1) := by decide +kernel
theorem dX4_paidTo_22 : decode cX4_paidTo 22 = .ok (.iaload, 1) := by decide +kernel
theorem dX4_paidTo_23 : decode cX4_paidTo 23 = .ok (.goto 4, 3) := by decide +kernel
theorem dX4_paidTo_26 : decode cX4_paidTo 26 = .ok (.iconst 0, 1) := by decide +kernel
theorem dX4_paidTo_27 : decode cX4_paidTo 27 = .ok (.ireturn, 1) := by decide +kernel
theorem dX4_isPaid_0 : decode cX4_isPaid 0 = .ok (.iload_n 0, 1) := by decide +kernel
theorem dX4_isPaid_1 : decode cX4_isPaid 1 = .ok (.iconst 1, 1) := by decide +kernel
theorem dX4_isPaid_2 : decode cX4_isPaid 2 = .ok (.if_icmp .eq 13, 3) := by decide +kernel
theorem dX4_isPaid_5 : decode cX4_isPaid 5 = .ok (.iload_n 0, 1) := by decide +kernel
theorem dX4_isPaid_6 : decode cX4_isPaid 6 = .ok (.iconst 2, 1) := by decide +kernel
theorem dX4_isPaid_7 : decode cX4_isPaid 7 = .ok (.if_icmp .eq 8, 3) := by decide +kernel
theorem dX4_isPaid_10 : decode cX4_isPaid 10 = .ok (.iload_n 0, 1) := by decide +kernel
theorem dX4_isPaid_11 : decode cX4_isPaid 11 = .ok (.iconst 3, 1) := by decide +kernel
theorem dX4_isPaid_12 : decode cX4_isPaid 12 = .ok (.if_icmp .ne 7, 3) := by decide +kernel
theorem dX4_isPaid_15 : decode cX4_isPaid 15 = .ok (.iconst 1, 1) := by decide +kernel
theorem dX4_isPaid_16 : decode cX4_isPaid 16 = .ok (.goto 4, 3) := by decide +kernel
theorem dX4_isPaid_19 : decode cX4_isPaid 19 = .ok (.iconst 0, 1) := by decide +kernel
theorem dX4_isPaid_20 : decode cX4_isPaid 20 = .ok (.ireturn, 1) := by decide +kernel
theorem lq_X4_goesTo_0 {w : Cond} (h : w ∈ ([.fieldLink RX4 55 "WinterWalk$Land" "at" "[I", .fieldLink RX4 43 "WinterWalk$Land" "roads" "[I", .fieldLink RX4 24 "WinterWalk$Land" "doorsShut" "I", .fieldLink RX4 52 "WinterWalk$Land" "kinds" "[I", .fieldLink RX4 27 "WinterWalk$Land" "day" "I", .fieldLink RX4 58 "WinterWalk$Land" "before" "[I", .methodLink RX4 110 yX4_greatestOffer, .instanceMethod yX4_greatestOffer, .selects RX4 yX4_greatestOffer yX4_greatestOffer, .initialized RX4, .code yX4_greatestOffer cX4_greatestOffer 6 (some .int), .fieldLink RX4 9 "WinterWalk$Land" "villages" "I", .fieldLink RX4 40 "WinterWalk$Land" "offers" "[I", .methodLink RX4 113 yX4_withoutWayBack, .static yX4_withoutWayBack, .code yX4_withoutWayBack cX4_withoutWayBack 3 (some .int), .constant RX4 87 (-1000000), .methodLink RX4 116 yX4_fewestNights, .instanceMethod yX4_fewestNights, .selects RX4 yX4_fewestNights yX4_fewestNights, .code yX4_fewestNights cX4_fewestNights 6 (some .int), .constant RX4 119 (1000000), .fieldLink RX4 46 "WinterWalk$Land" "nightsIn" "[I"] : List Cond)) : w ∈ wsX4_goesTo := List.mem_cons_of_mem _ (List.mem_append_left _ (h))
theorem lt_X4_goesTo_X4 : ∀ w ∈ wsX40, w ∈ wsX4_goesTo := fun _ h => List.mem_cons_of_mem _ (List.mem_append_right _ (h))
set_option maxRecDepth 20000 in
theorem ggX4_goesTo_X4_greatestOffer : GoodIn wsX4_goesTo wsX4_greatestOffer := goodIn_sub (List.forall_mem_cons.mpr ⟨lq_X4_goesTo_0 (List.mem_of_getElem? (i := 10) rfl), (List.forall_mem_append.mpr ⟨(show ∀ w ∈ ([.fieldLink RX4 9 "WinterWalk$Land" "villages" "I", .fieldLink RX4 40 "WinterWalk$Land" "offers" "[I"] : List Cond), w ∈ wsX4_goesTo from List.forall_mem_cons.mpr ⟨lq_X4_goesTo_0 (List.mem_of_getElem? (i := 11) rfl), List.forall_mem_cons.mpr ⟨lq_X4_goesTo_0 (List.mem_of_getElem? (i := 12) rfl), fun _ h => absurd h List.not_mem_nil⟩⟩), lt_X4_goesTo_X4⟩)⟩) (by decide +kernel)
set_option maxRecDepth 20000 in
theorem gX4_goesTo_X4_greatestOffer : GoodIn wsX4_goesTo (wsV RX4 110 RX4 yX4_greatestOffer wsX4_greatestOffer) := goodIn_app (goodIn_sub (List.forall_mem_cons.mpr ⟨lq_X4_goesTo_0 (List.mem_of_getElem? (i := 6) rfl), List.forall_mem_cons.mpr ⟨lq_X4_goesTo_0 (List.mem_of_getElem? (i := 7) rfl), List.forall_mem_cons.mpr ⟨lq_X4_goesTo_0 (List.mem_of_getElem? (i := 8) rfl), List.forall_mem_cons.mpr ⟨lq_X4_goesTo_0 (List.mem_of_getElem? (i := 9) rfl), fun _ h => absurd h List.not_mem_nil⟩⟩⟩⟩) (by decide +kernel)) ggX4_goesTo_X4_greatestOffer
set_option maxRecDepth 20000 in
theorem ggX4_goesTo_X4_withoutWayBack : GoodIn wsX4_goesTo wsX4_withoutWayBack := goodIn_sub (List.forall_mem_cons.mpr ⟨lq_X4_goesTo_0 (List.mem_of_getElem? (i := 15) rfl), (show ∀ w ∈ ([.constant RX4 87 (-1000000)] : List Cond), w ∈ wsX4_goesTo from List.forall_mem_cons.mpr ⟨lq_X4_goesTo_0 (List.mem_of_getElem? (i := 16) rfl), fun _ h => absurd h List.not_mem_nil⟩)⟩) (by decide +kernel)
set_option maxRecDepth 20000 in
theorem gX4_goesTo_X4_withoutWayBack : GoodIn wsX4_goesTo (va_wsS RX4 113 yX4_withoutWayBack wsX4_withoutWayBack) := goodIn_app (goodIn_sub (List.forall_mem_cons.mpr ⟨lq_X4_goesTo_0 (List.mem_of_getElem? (i := 13) rfl), List.forall_mem_cons.mpr ⟨lq_X4_goesTo_0 (List.mem_of_getElem? (i := 14) rfl), List.forall_mem_cons.mpr ⟨lq_X4_goesTo_0 (List.mem_of_getElem? (i := 9) rfl), fun _ h => absurd h List.not_mem_nil⟩⟩⟩) (by decide +kernel)) ggX4_goesTo_X4_withoutWayBack
set_option maxRecDepth 20000 in
theorem ggX4_goesTo_X4_fewestNights : GoodIn wsX4_goesTo wsX4_fewestNights := goodIn_sub (List.forall_mem_cons.mpr ⟨lq_X4_goesTo_0 (List.mem_of_getElem? (i := 20) rfl), (List.forall_mem_append.mpr ⟨(show ∀ w ∈ ([.fieldLink RX4 43 "WinterWalk$Land" "roads" "[I", .fieldLink RX4 24 "WinterWalk$Land" "doorsShut" "I", .constant RX4 119 (1000000), .fieldLink RX4 9 "WinterWalk$Land" "villages" "I", .fieldLink RX4 46 "WinterWalk$Land" "nightsIn" "[I"] : List Cond), w ∈ wsX4_goesTo from List.forall_mem_cons.mpr ⟨lq_X4_goesTo_0 (List.mem_of_getElem? (i := 1) rfl), List.forall_mem_cons.mpr ⟨lq_X4_goesTo_0 (List.mem_of_getElem? (i := 2) rfl), List.forall_mem_cons.mpr ⟨lq_X4_goesTo_0 (List.mem_of_getElem? (i := 21) rfl), List.forall_mem_cons.mpr ⟨lq_X4_goesTo_0 (List.mem_of_getElem? (i := 11) rfl), List.forall_mem_cons.mpr ⟨lq_X4_goesTo_0 (List.mem_of_getElem? (i := 22) rfl), fun _ h => absurd h List.not_mem_nil⟩⟩⟩⟩⟩), lt_X4_goesTo_X4⟩)⟩) (by decide +kernel)
set_option maxRecDepth 20000 in
theorem gX4_goesTo_X4_fewestNights : GoodIn wsX4_goesTo (wsV RX4 116 RX4 yX4_fewestNights wsX4_fewestNights) := goodIn_app (goodIn_sub (List.forall_mem_cons.mpr ⟨lq_X4_goesTo_0 (List.mem_of_getElem? (i := 17) rfl), List.forall_mem_cons.mpr ⟨lq_X4_goesTo_0 (List.mem_of_getElem? (i := 18) rfl), List.forall_mem_cons.mpr ⟨lq_X4_goesTo_0 (List.mem_of_getElem? (i := 19) rfl), List.forall_mem_cons.mpr ⟨lq_X4_goesTo_0 (List.mem_of_getElem? (i := 9) rfl), fun _ h => absurd h List.not_mem_nil⟩⟩⟩⟩) (by decide +kernel)) ggX4_goesTo_X4_fewestNights
theorem dX4_goesTo_0 : decode cX4_goesTo 0 = .ok (.aload_n 0, 1) := by decide +kernel
theorem dX4_goesTo_1 : decode cX4_goesTo 1 = .ok (.getfield 55, 3) := by decide +kernel
theorem dX4_goesTo_4 : decode cX4_goesTo 4 = .ok (.iload_n 1, 1) := by decide +kernel
theorem dX4_goesTo_5 : decode cX4_goesTo 5 = .ok (.iaload, 1) := by decide +kernel
theorem dX4_goesTo_6 : decode cX4_goesTo 6 = .ok (.istore_n 2, 1) := by decide +kernel
theorem dX4_goesTo_7 : decode cX4_goesTo 7 = .ok (.aload_n 0, 1) := by decide +kernel
theorem dX4_goesTo_8 : decode cX4_goesTo 8 = .ok (.getfield 43, 3) := by decide +kernel
theorem dX4_goesTo_11 : decode cX4_goesTo 11 = .ok (.iload_n 2, 1) := by decide +kernel
theorem dX4_goesTo_12 : decode cX4_goesTo 12 = .ok (.iaload, 1) := by decide +kernel
theorem dX4_goesTo_13 : decode cX4_goesTo 13 = .ok (.aload_n 0, 1) := by decide +kernel
theorem dX4_goesTo_14 : decode cX4_goesTo 14 = .ok (.getfield 24, 3) := by decide +kernel
theorem dX4_goesTo_17 : decode cX4_goesTo 17 = .ok (.iconst (-1), 1) := by decide +kernel
theorem dX4_goesTo_18 : decode cX4_goesTo 18 = .ok (.ixor, 1) := by decide +kernel
theorem dX4_goesTo_19 : decode cX4_goesTo 19 = .ok (.iand, 1) := by decide +kernel
theorem dX4_goesTo_20 : decode cX4_goesTo 20 = .ok (.istore_n 3, 1) := by decide +kernel
theorem dX4_goesTo_21 : decode cX4_goesTo 21 = .ok (.aload_n 0, 1) := by decide +kernel
theorem dX4_goesTo_22 : decode cX4_goesTo 22 = .ok (.getfield 52, 3) := by decide +kernel
theorem dX4_goesTo_25 : decode cX4_goesTo 25 = .ok (.iload_n 1, 1) := by decide +kernel
theorem dX4_goesTo_26 : decode cX4_goesTo 26 = .ok (.iaload, 1) := by decide +kernel
theorem dX4_goesTo_27 : decode cX4_goesTo 27 = .ok (.tableswitch 82 2 5 #[29, 50, 66, 72], 29) := by decide +kernel
theorem dX4_goesTo_56 : decode cX4_goesTo 56 = .ok (.aload_n 0, 1) := by decide +kernel
theorem dX4_goesTo_57 : decode cX4_goesTo 57 = .ok (.getfield 27, 3) := by decide +kernel
theorem dX4_goesTo_60 : decode cX4_goesTo 60 = .ok (.iconst 3, 1) := by decide +kernel
theorem dX4_goesTo_61 : decode cX4_goesTo 61 = .ok (.irem, 1) := by decide +kernel
theorem dX4_goesTo_62 : decode cX4_goesTo 62 = .ok (.iconst 2, 1) := by decide +kernel
theorem dX4_goesTo_63 : decode cX4_goesTo 63 = .ok (.if_icmp .ne 7, 3) := by decide +kernel
theorem dX4_goesTo_66 : decode cX4_goesTo 66 = .ok (.iload_n 2, 1) := by decide +kernel
theorem dX4_goesTo_67 : decode cX4_goesTo 67 = .ok (.goto 9, 3) := by decide +kernel
theorem dX4_goesTo_70 : decode cX4_goesTo 70 = .ok (.aload_n 0, 1) := by decide +kernel
theorem dX4_goesTo_71 : decode cX4_goesTo 71 = .ok (.iload_n 3, 1) := by decide +kernel
theorem dX4_goesTo_72 : decode cX4_goesTo 72 = .ok (.iload_n 2, 1) := by decide +kernel
theorem dX4_goesTo_73 : decode cX4_goesTo 73 = .ok (.invokevirtual 110, 3) := by decide +kernel
theorem dX4_goesTo_76 : decode cX4_goesTo 76 = .ok (.ireturn, 1) := by decide +kernel
theorem dX4_goesTo_77 : decode cX4_goesTo 77 = .ok (.aload_n 0, 1) := by decide +kernel
theorem dX4_goesTo_78 : decode cX4_goesTo 78 = .ok (.iload_n 3, 1) := by decide +kernel
theorem dX4_goesTo_79 : decode cX4_goesTo 79 = .ok (.aload_n 0, 1) := by decide +kernel
theorem dX4_goesTo_80 : decode cX4_goesTo 80 = .ok (.getfield 58, 3) := by decide +kernel
theorem dX4_goesTo_83 : decode cX4_goesTo 83 = .ok (.iload_n 1, 1) := by decide +kernel
theorem dX4_goesTo_84 : decode cX4_goesTo 84 = .ok (.iaload, 1) := by decide +kernel
theorem dX4_goesTo_85 : decode cX4_goesTo 85 = .ok (.invokestatic 113, 3) := by decide +kernel
theorem dX4_goesTo_88 : decode cX4_goesTo 88 = .ok (.iload_n 2, 1) := by decide +kernel
theorem dX4_goesTo_89 : decode cX4_goesTo 89 = .ok (.invokevirtual 110, 3) := by decide +kernel
theorem dX4_goesTo_92 : decode cX4_goesTo 92 = .ok (.ireturn, 1) := by decide +kernel
theorem dX4_goesTo_93 : decode cX4_goesTo 93 = .ok (.aload_n 0, 1) := by decide +kernel
theorem dX4_goesTo_94 : decode cX4_goesTo 94 = .ok (.iload_n 2, 1) := by decide +kernel
theorem dX4_goesTo_95 : decode cX4_goesTo 95 = .ok (.invokevirtual 116, 3) := by decide +kernel
theorem dX4_goesTo_98 : decode cX4_goesTo 98 = .ok (.ireturn, 1) := by decide +kernel
theorem dX4_goesTo_99 : decode cX4_goesTo 99 = .ok (.aload_n 0, 1) := by decide +kernel
theorem dX4_goesTo_100 : decode cX4_goesTo 100 = .ok (.aload_n 0, 1) := by decide +kernel
theorem dX4_goesTo_101 : decode cX4_goesTo 101 = .ok (.iload_n 2, 1) := by decide +kernel
theorem dX4_goesTo_102 : decode cX4_goesTo 102 = .ok (.invokevirtual 116, 3) := by decide +kernel
theorem dX4_goesTo_105 : decode cX4_goesTo 105 = .ok (.invokevirtual 116, 3) := by decide +kernel
theorem dX4_goesTo_108 : decode cX4_goesTo 108 = .ok (.ireturn, 1) := by decide +kernel
theorem dX4_goesTo_109 : decode cX4_goesTo 109 = .ok (.aload_n 0, 1) := by decide +kernel
theorem dX4_goesTo_110 : decode cX4_goesTo 110 = .ok (.iload_n 3, 1) := by decide +kernel
theorem dX4_goesTo_111 : decode cX4_goesTo 111 = .ok (.iload_n 2, 1) := by decide +kernel
theorem dX4_goesTo_112 : decode cX4_goesTo 112 = .ok (.invokevirtual 110, 3) := by decide +kernel
theorem dX4_goesTo_115 : decode cX4_goesTo 115 = .ok (.ireturn, 1) := by decide +kernel
theorem dX4_withoutWayBack_0 : decode cX4_withoutWayBack 0 = .ok (.iload_n 1, 1) := by decide +kernel
theorem dX4_withoutWayBack_1 : decode cX4_withoutWayBack 1 = .ok (.ldc 87, 2) := by decide +kernel
theorem dX4_withoutWayBack_3 : decode cX4_withoutWayBack 3 = .ok (.if_icmp .ne 7, 3) := by decide +kernel
theorem dX4_withoutWayBack_6 : decode cX4_withoutWayBack 6 = .ok (.iload_n 0, 1) := by decide +kernel
theorem dX4_withoutWayBack_7 : decode cX4_withoutWayBack 7 = .ok (.goto 10, 3) := by decide +kernel
theorem dX4_withoutWayBack_10 : decode cX4_withoutWayBack 10 = .ok (.iload_n 0, 1) := by decide +kernel
theorem dX4_withoutWayBack_11 : decode cX4_withoutWayBack 11 = .ok (.iconst 1, 1) := by decide +kernel
theorem dX4_withoutWayBack_12 : decode cX4_withoutWayBack 12 = .ok (.iload_n 1, 1) := by decide +kernel
theorem dX4_withoutWayBack_13 : decode cX4_withoutWayBack 13 = .ok (.ishl, 1) := by decide +kernel
theorem dX4_withoutWayBack_14 : decode cX4_withoutWayBack 14 = .ok (.iconst (-1), 1) := by decide +kernel
theorem dX4_withoutWayBack_15 : decode cX4_withoutWayBack 15 = .ok (.ixor, 1) := by decide +kernel
theorem dX4_withoutWayBack_16 : decode cX4_withoutWayBack 16 = .ok (.iand, 1) := by decide +kernel
theorem dX4_withoutWayBack_17 : decode cX4_withoutWayBack 17 = .ok (.istore_n 2, 1) := by decide +kernel
theorem dX4_withoutWayBack_18 : decode cX4_withoutWayBack 18 = .ok (.iload_n 2, 1) := by decide +kernel
theorem dX4_withoutWayBack_19 : decode cX4_withoutWayBack 19 = .ok (.ifCond .eq 7, 3) := by decide +kernel
theorem dX4_withoutWayBack_22 : decode cX4_withoutWayBack 22 = .ok (.iload_n 2, 1) := by decide +kernel
theorem dX4_withoutWayBack_23 : decode cX4_withoutWayBack 23 = .ok (.goto 4, 3) := by decide +kernel
theorem dX4_withoutWayBack_26 : decode cX4_withoutWayBack 26 = .ok (.iload_n 0, 1) := by decide +kernel
theorem dX4_withoutWayBack_27 : decode cX4_withoutWayBack 27 = .ok (.ireturn, 1) := by decide +kernel
theorem dX4_greatestOffer_0 : decode cX4_greatestOffer 0 = .ok (.iload_n 2, 1) := by decide +kernel
theorem dX4_greatestOffer_1 : decode cX4_greatestOffer 1 = .ok (.istore_n 3, 1) := by decide +kernel
theorem dX4_greatestOffer_2 : decode cX4_greatestOffer 2 = .ok (.iconst (-1), 1) := by decide +kernel
theorem dX4_greatestOffer_3 : decode cX4_greatestOffer 3 = .ok (.istore 4, 2) := by decide +kernel
theorem dX4_greatestOffer_5 : decode cX4_greatestOffer 5 = .ok (.iconst 0, 1) := by decide +kernel
theorem dX4_greatestOffer_6 : decode cX4_greatestOffer 6 = .ok (.istore 5, 2) := by decide +kernel
theorem dX4_greatestOffer_8 : decode cX4_greatestOffer 8 = .ok (.iload 5, 2) := by decide +kernel
theorem dX4_greatestOffer_10 : decode cX4_greatestOffer 10 = .ok (.aload_n 0, 1) := by decide +kernel
theorem dX4_greatestOffer_11 : decode cX4_greatestOffer 11 = .ok (.getfield 9, 3) := by decide +kernel
theorem dX4_greatestOffer_14 : decode cX4_greatestOffer 14 = .ok (.if_icmp .ge 42, 3) := by decide +kernel
theorem dX4_greatestOffer_17 : decode cX4_greatestOffer 17 = .ok (.iload_n 1, 1) := by decide +kernel
theorem dX4_greatestOffer_18 : decode cX4_greatestOffer 18 = .ok (.iload 5, 2) := by decide +kernel
theorem dX4_greatestOffer_20 : decode cX4_greatestOffer 20 = .ok (.ishr, 1) := by decide +kernel
theorem dX4_greatestOffer_21 : decode cX4_greatestOffer 21 = .ok (.iconst 1, 1) := by decide +kernel
theorem dX4_greatestOffer_22 : decode cX4_greatestOffer 22 = .ok (.iand, 1) := by decide +kernel
theorem dX4_greatestOffer_23 : decode cX4_greatestOffer 23 = .ok (.ifCond .eq 27, 3) := by decide +kernel
theorem dX4_greatestOffer_26 : decode cX4_greatestOffer 26 = .ok (.aload_n 0, 1) := by decide +kernel
theorem dX4_greatestOffer_27 : decode cX4_greatestOffer 27 = .ok (.getfield 40, 3) := by decide +kernel
theorem dX4_greatestOffer_30 : decode cX4_greatestOffer 30 = .ok (.iload 5, 2) := by decide +kernel
theorem dX4_greatestOffer_32 : decode cX4_greatestOffer 32 = .ok (.iaload, 1) := by decide +kernel
theorem dX4_greatestOffer_33 : decode cX4_greatestOffer 33 = .ok (.iload 4, 2) := by decide +kernel
theorem dX4_greatestOffer_35 : decode cX4_greatestOffer 35 = .ok (.if_icmp .le 15, 3) := by decide +kernel
theorem dX4_greatestOffer_38 : decode cX4_greatestOffer 38 = .ok (.iload 5, 2) := by decide +kernel
theorem dX4_greatestOffer_40 : decode cX4_greatestOffer 40 = .ok (.istore_n 3, 1) := by decide +kernel
theorem dX4_greatestOffer_41 : decode cX4_greatestOffer 41 = .ok (.aload_n 0, 1) := by decide +kernel
theorem dX4_greatestOffer_42 : decode cX4_greatestOffer 42 = .ok (.getfield 40, 3) := by decide +kernel
theorem dX4_greatestOffer_45 : decode cX4_greatestOffer 45 = .ok (.iload 5, 2) := by decide +kernel
theorem dX4_greatestOffer_47 : decode cX4_greatestOffer 47 = .ok (.iaload, 1) := by decide +kernel
theorem dX4_greatestOffer_48 : decode cX4_greatestOffer 48 = .ok (.istore 4, 2) := by decide +kernel
theorem dX4_greatestOffer_50 : decode cX4_greatestOffer 50 = .ok (.iinc 5 1, 3) := by decide +kernel
theorem dX4_greatestOffer_53 : decode cX4_greatestOffer 53 = .ok (.goto (-45), 3) := by decide +kernel
theorem dX4_greatestOffer_56 : decode cX4_greatestOffer 56 = .ok (.iload_n 3, 1) := by decide +kernel
theorem dX4_greatestOffer_57 : decode cX4_greatestOffer 57 = .ok (.ireturn, 1) := by decide +kernel
theorem dX4_fewestNights_0 : decode cX4_fewestNights 0 = .ok (.aload_n 0, 1) := by decide +kernel
theorem dX4_fewestNights_1 : decode cX4_fewestNights 1 = .ok (.getfield 43, 3) := by decide +kernel
theorem dX4_fewestNights_4 : decode cX4_fewestNights 4 = .ok (.iload_n 1, 1) := by decide +kernel
theorem dX4_fewestNights_5 : decode cX4_fewestNights 5 = .ok (.iaload, 1) := by decide +kernel
theorem dX4_fewestNights_6 : decode cX4_fewestNights 6 = .ok (.aload_n 0, 1) := by decide +kernel
theorem dX4_fewestNights_7 : decode cX4_fewestNights 7 = .ok (.getfield 24, 3) := by decide +kernel
theorem dX4_fewestNights_10 : decode cX4_fewestNights 10 = .ok (.iconst (-1), 1) := by decide +kernel
theorem dX4_fewestNights_11 : decode cX4_fewestNights 11 = .ok (.ixor, 1) := by decide +kernel
theorem dX4_fewestNights_12 : decode cX4_fewestNights 12 = .ok (.iand, 1) := by decide +kernel
theorem dX4_fewestNights_13 : decode cX4_fewestNights 13 = .ok (.istore_n 2, 1) := by decide +kernel
theorem dX4_fewestNights_14 : decode cX4_fewestNights 14 = .ok (.iload_n 1, 1) := by decide +kernel
theorem dX4_fewestNights_15 : decode cX4_fewestNights 15 = .ok (.istore_n 3, 1) := by decide +kernel
theorem dX4_fewestNights_16 : decode cX4_fewestNights 16 = .ok (.ldc 119, 2) := by decide +kernel
theorem dX4_fewestNights_18 : decode cX4_fewestNights 18 = .ok (.istore 4, 2) := by decide +kernel
theorem dX4_fewestNights_20 : decode cX4_fewestNights 20 = .ok (.iconst 0, 1) := by decide +kernel
theorem dX4_fewestNights_21 : decode cX4_fewestNights 21 = .ok (.istore 5, 2) := by decide +kernel
theorem dX4_fewestNights_23 : decode cX4_fewestNights 23 = .ok (.iload 5, 2) := by decide +kernel
theorem dX4_fewestNights_25 : decode cX4_fewestNights 25 = .ok (.aload_n 0, 1) := by decide +kernel
theorem dX4_fewestNights_26 : decode cX4_fewestNights 26 = .ok (.getfield 9, 3) := by decide +kernel
theorem dX4_fewestNights_29 : decode cX4_fewestNights 29 = .ok (.if_icmp .ge 42, 3) := by decide +kernel
theorem dX4_fewestNights_32 : decode cX4_fewestNights 32 = .ok (.iload_n 2, 1) := by decide +kernel
theorem dX4_fewestNights_33 : decode cX4_fewestNights 33 = .ok (.iload 5, 2) := by decide +kernel
theorem dX4_fewestNights_35 : decode cX4_fewestNights 35 = .ok (.ishr, 1) := by decide +kernel
theorem dX4_fewestNights_36 : decode cX4_fewestNights 36 = .ok (.iconst 1, 1) := by decide +kernel
theorem dX4_fewestNights_37 : decode cX4_fewestNights 37 = .ok (.iand, 1) := by decide +kernel
theorem dX4_fewestNights_38 : decode cX4_fewestNights 38 = .ok (.ifCond .eq 27, 3) := by decide +kernel
theorem dX4_fewestNights_41 : decode cX4_fewestNights 41 = .ok (.aload_n 0, 1) := by decide +kernel
theorem dX4_fewestNights_42 : decode cX4_fewestNights 42 = .ok (.getfield 46, 3) := by decide +kernel
theorem dX4_fewestNights_45 : decode cX4_fewestNights 45 = .ok (.iload 5, 2) := by decide +kernel
theorem dX4_fewestNights_47 : decode cX4_fewestNights 47 = .ok (.iaload, 1) := by decide +kernel
theorem dX4_fewestNights_48 : decode cX4_fewestNights 48 = .ok (.iload 4, 2) := by decide +kernel
theorem dX4_fewestNights_50 : decode cX4_fewestNights 50 = .ok (.if_icmp .ge 15, 3) := by decide +kernel
theorem dX4_fewestNights_53 : decode cX4_fewestNights 53 = .ok (.iload 5, 2) := by decide +kernel
theorem dX4_fewestNights_55 : decode cX4_fewestNights 55 = .ok (.istore_n 3, 1) := by decide +kernel
theorem dX4_fewestNights_56 : decode cX4_fewestNights 56 = .ok (.aload_n 0, 1) := by decide +kernel
theorem dX4_fewestNights_57 : decode cX4_fewestNights 57 = .ok (.getfield 46, 3) := by decide +kernel
theorem dX4_fewestNights_60 : decode cX4_fewestNights 60 = .ok (.iload 5, 2) := by decide +kernel
theorem dX4_fewestNights_62 : decode cX4_fewestNights 62 = .ok (.iaload, 1) := by decide +kernel
theorem dX4_fewestNights_63 : decode cX4_fewestNights 63 = .ok (.istore 4, 2) := by decide +kernel
theorem dX4_fewestNights_65 : decode cX4_fewestNights 65 = .ok (.iinc 5 1, 3) := by decide +kernel
theorem dX4_fewestNights_68 : decode cX4_fewestNights 68 = .ok (.goto (-45), 3) := by decide +kernel
theorem dX4_fewestNights_71 : decode cX4_fewestNights 71 = .ok (.iload_n 3, 1) := by decide +kernel
theorem dX4_fewestNights_72 : decode cX4_fewestNights 72 = .ok (.ireturn, 1) := by decide +kernel
theorem dX4_hasSleeper_0 : decode cX4_hasSleeper 0 = .ok (.iconst 0, 1) := by decide +kernel
theorem dX4_hasSleeper_1 : decode cX4_hasSleeper 1 = .ok (.istore_n 2, 1) := by decide +kernel
theorem dX4_hasSleeper_2 : decode cX4_hasSleeper 2 = .ok (.iload_n 2, 1) := by decide +kernel
theorem dX4_hasSleeper_3 : decode cX4_hasSleeper 3 = .ok (.aload_n 0, 1) := by decide +kernel
theorem dX4_hasSleeper_4 : decode cX4_hasSleeper 4 = .ok (.getfield 18, 3) := by decide +kernel
theorem dX4_hasSleeper_7 : decode cX4_hasSleeper 7 = .ok (.if_icmp .ge 21, 3) := by decide +kernel
theorem dX4_hasSleeper_10 : decode cX4_hasSleeper 10 = .ok (.aload_n 0, 1) := by decide +kernel
theorem dX4_hasSleeper_11 : decode cX4_hasSleeper 11 = .ok (.getfield 55, 3) := by decide +kernel
theorem dX4_hasSleeper_14 : decode cX4_hasSleeper 14 = .ok (.iload_n 2, 1) := by decide +kernel
theorem dX4_hasSleeper_15 : decode cX4_hasSleeper 15 = .ok (.iaload, 1) := by decide +kernel
theorem dX4_hasSleeper_16 : decode cX4_hasSleeper 16 = .ok (.iload_n 1, 1) := by decide +kernel
theorem dX4_hasSleeper_17 : decode cX4_hasSleeper 17 = .ok (.if_icmp .ne 5, 3) := by decide +kernel
theorem dX4_hasSleeper_20 : decode cX4_hasSleeper 20 = .ok (.iconst 1, 1) := by decide +kernel
theorem dX4_hasSleeper_21 : decode cX4_hasSleeper 21 = .ok (.ireturn, 1) := by decide +kernel
theorem dX4_hasSleeper_22 : decode cX4_hasSleeper 22 = .ok (.iinc 2 1, 3) := by decide +kernel
theorem dX4_hasSleeper_25 : decode cX4_hasSleeper 25 = .ok (.goto (-23), 3) := by decide +kernel
theorem dX4_hasSleeper_28 : decode cX4_hasSleeper 28 = .ok (.iconst 0, 1) := by decide +kernel
theorem dX4_hasSleeper_29 : decode cX4_hasSleeper 29 = .ok (.ireturn, 1) := by decide +kernel
theorem lq_X4_keptTonight_0 {w : Cond} (h : w ∈ ([.fieldLink RX4 18 "WinterWalk$Land" "walkers" "I", .fieldLink RX4 55 "WinterWalk$Land" "at" "[I", .fieldLink RX4 36 "WinterWalk$Land" "worth" "[I", .methodLink RX4 104 yX4_paidTo, .instanceMethod yX4_paidTo, .selects RX4 yX4_paidTo yX4_paidTo, .initialized RX4, .code yX4_paidTo cX4_paidTo 2 (some .int), .fieldLink RX4 52 "WinterWalk$Land" "kinds" "[I", .fieldLink RX4 40 "WinterWalk$Land" "offers" "[I", .methodLink RX4 107 yX4_isPaid, .static yX4_isPaid, .code yX4_isPaid cX4_isPaid 1 (some .boolean)] : List Cond)) : w ∈ wsX4_keptTonight := List.mem_cons_of_mem _ (List.mem_append_left _ (h))
theorem lt_X4_keptTonight_X4 : ∀ w ∈ wsX40, w ∈ wsX4_keptTonight := fun _ h => List.mem_cons_of_mem _ (List.mem_append_right _ (h))
set_option maxRecDepth 20000 in
theorem ggX4_keptTonight_X4_paidTo : GoodIn wsX4_keptTonight wsX4_paidTo := goodIn_sub (List.forall_mem_cons.mpr ⟨lq_X4_keptTonight_0 (List.mem_of_getElem? (i := 7) rfl), (List.forall_mem_append.mpr ⟨(show ∀ w ∈ ([.fieldLink RX4 52 "WinterWalk$Land" "kinds" "[I", .fieldLink RX4 40 "WinterWalk$Land" "offers" "[I", .fieldLink RX4 55 "WinterWalk$Land" "at" "[I", .methodLink RX4 107 yX4_isPaid, .static yX4_isPaid, .initialized RX4, .code yX4_isPaid cX4_isPaid 1 (some .boolean)] : List Cond), w ∈ wsX4_keptTonight from List.forall_mem_cons.mpr ⟨lq_X4_keptTonight_0 (List.mem_of_getElem? (i := 8) rfl), List.forall_mem_cons.mpr ⟨lq_X4_keptTonight_0 (List.mem_of_getElem? (i := 9) rfl), List.forall_mem_cons.mpr ⟨lq_X4_keptTonight_0 (List.mem_of_getElem? (i := 1) rfl), List.forall_mem_cons.mpr ⟨lq_X4_keptTonight_0 (List.mem_of_getElem? (i := 10) rfl), List.forall_mem_cons.mpr ⟨lq_X4_keptTonight_0 (List.mem_of_getElem? (i := 11) rfl), List.forall_mem_cons.mpr ⟨lq_X4_keptTonight_0 (List.mem_of_getElem? (i := 6) rfl), List.forall_mem_cons.mpr ⟨lq_X4_keptTonight_0 (List.mem_of_getElem? (i := 12) rfl), fun _ h => absurd h List.not_mem_nil⟩⟩⟩⟩⟩⟩⟩), lt_X4_keptTonight_X4⟩)⟩) (by decide +kernel)
set_option maxRecDepth 20000 in
theorem gX4_keptTonight_X4_paidTo : GoodIn wsX4_keptTonight (wsV RX4 104 RX4 yX4_paidTo wsX4_paidTo) := goodIn_app (goodIn_sub (List.forall_mem_cons.mpr ⟨lq_X4_keptTonight_0 (List.mem_of_getElem? (i := 3) rfl), List.forall_mem_cons.mpr ⟨lq_X4_keptTonight_0 (List.mem_of_getElem? (i := 4) rfl), List.forall_mem_cons.mpr ⟨lq_X4_keptTonight_0 (List.mem_of_getElem? (i := 5) rfl), List.forall_mem_cons.mpr ⟨lq_X4_keptTonight_0 (List.mem_of_getElem? (i := 6) rfl), fun _ h => absurd h List.not_mem_nil⟩⟩⟩⟩) (by decide +kernel)) ggX4_keptTonight_X4_paidTo
theorem dX4_keptTonight_0 : decode cX4_keptTonight 0 = .ok (.iconst 0, 1) := by decide +kernel
theorem dX4_keptTonight_1 : decode cX4_keptTonight 1 = .ok (.istore_n 2, 1) := by decide +kernel
theorem dX4_keptTonight_2 : decode cX4_keptTonight 2 = .ok (.iconst 0, 1) := by decide +kernel
theorem dX4_keptTonight_3 : decode cX4_keptTonight 3 = .ok (.istore_n 3, 1) := by decide +kernel
theorem dX4_keptTonight_4 : decode cX4_keptTonight 4 = .ok (.iload_n 3, 1) := by decide +kernel
theorem dX4_keptTonight_5 : decode cX4_keptTonight 5 = .ok (.aload_n 0, 1) := by decide +kernel
theorem dX4_keptTonight_6 : decode cX4_keptTonight 6 = .ok (.getfield 18, 3) := by decide +kernel
theorem dX4_keptTonight_9 : decode cX4_keptTonight 9 = .ok (.if_icmp .ge 34, 3) := by decide +kernel
theorem dX4_keptTonight_12 : decode cX4_keptTonight 12 = .ok (.aload_n 0, 1) := by decide +kernel
theorem dX4_keptTonight_13 : decode cX4_keptTonight 13 = .ok (.getfield 55, 3) := by decide +kernel
theorem dX4_keptTonight_16 : decode cX4_keptTonight 16 = .ok (.iload_n 3, 1) := by decide +kernel
theorem dX4_keptTonight_17 : decode cX4_keptTonight 17 = .ok (.iaload, 1) := by decide +kernel
theorem dX4_keptTonight_18 : decode cX4_keptTonight 18 = .ok (.iload_n 1, 1) := by decide +kernel
theorem dX4_keptTonight_19 : decode cX4_keptTonight 19 = .ok (.if_icmp .ne 18, 3) := by decide +kernel
theorem dX4_keptTonight_22 : decode cX4_keptTonight 22 = .ok (.iload_n 2, 1) := by decide +kernel
theorem dX4_keptTonight_23 : decode cX4_keptTonight 23 = .ok (.aload_n 0, 1) := by decide +kernel
theorem dX4_keptTonight_24 : decode cX4_keptTonight 24 = .ok (.getfield 36, 3) := by decide +kernel
theorem dX4_keptTonight_27 : decode cX4_keptTonight 27 = .ok (.iload_n 1, 1) := by decide +kernel
theorem dX4_keptTonight_28 : decode cX4_keptTonight 28 = .ok (.iaload, 1) := by decide +kernel
theorem dX4_keptTonight_29 : decode cX4_keptTonight 29 = .ok (.aload_n 0, 1) := by decide +kernel
theorem dX4_keptTonight_30 : decode cX4_keptTonight 30 = .ok (.iload_n 3, 1) := by decide +kernel
theorem dX4_keptTonight_31 : decode cX4_keptTonight 31 = .ok (.invokevirtual 104, 3) := by decide +kernel
theorem dX4_keptTonight_34 : decode cX4_keptTonight 34 = .ok (.isub, 1) := by decide +kernel
theorem dX4_keptTonight_35 : decode cX4_keptTonight 35 = .ok (.iadd, 1) := by decide +kernel
theorem dX4_keptTonight_36 : decode cX4_keptTonight 36 = .ok (.istore_n 2, 1) := by decide +kernel
theorem dX4_keptTonight_37 : decode cX4_keptTonight 37 = .ok (.iinc 3 1, 3) := by decide +kernel
theorem dX4_keptTonight_40 : decode cX4_keptTonight 40 = .ok (.goto (-36), 3) := by decide +kernel
theorem dX4_keptTonight_43 : decode cX4_keptTonight 43 = .ok (.iload_n 2, 1) := by decide +kernel
theorem dX4_keptTonight_44 : decode cX4_keptTonight 44 = .ok (.ireturn, 1) := by decide +kernel
theorem dX4_meetingPlace_0 : decode cX4_meetingPlace 0 = .ok (.ldc 87, 2) := by decide +kernel
theorem dX4_meetingPlace_2 : decode cX4_meetingPlace 2 = .ok (.istore_n 1, 1) := by decide +kernel
theorem dX4_meetingPlace_3 : decode cX4_meetingPlace 3 = .ok (.iconst 0, 1) := by decide +kernel
theorem dX4_meetingPlace_4 : decode cX4_meetingPlace 4 = .ok (.istore_n 2, 1) := by decide +kernel
theorem dX4_meetingPlace_5 : decode cX4_meetingPlace 5 = .ok (.iload_n 2, 1) := by decide +kernel
theorem dX4_meetingPlace_6 : decode cX4_meetingPlace 6 = .ok (.aload_n 0, 1) := by decide +kernel
theorem dX4_meetingPlace_7 : decode cX4_meetingPlace 7 = .ok (.getfield 18, 3) := by decide +kernel
theorem dX4_meetingPlace_10 : decode cX4_meetingPlace 10 = .ok (.if_icmp .ge 60, 3) := by decide +kernel
theorem dX4_meetingPlace_13 : decode cX4_meetingPlace 13 = .ok (.iconst 0, 1) := by decide +kernel
theorem dX4_meetingPlace_14 : decode cX4_meetingPlace 14 = .ok (.istore_n 3, 1) := by decide +kernel
theorem dX4_meetingPlace_15 : decode cX4_meetingPlace 15 = .ok (.iload_n 3, 1) := by decide +kernel
theorem dX4_meetingPlace_16 : decode cX4_meetingPlace 16 = .ok (.iload_n 2, 1) := by decide +kernel
theorem dX4_meetingPlace_17 : decode cX4_meetingPlace 17 = .ok (.if_icmp .ge 47, 3) := by decide +kernel
theorem dX4_meetingPlace_20 : decode cX4_meetingPlace 20 = .ok (.aload_n 0, 1) := by decide +kernel
theorem dX4_meetingPlace_21 : decode cX4_meetingPlace 21 = .ok (.getfield 55, 3) := by decide +kernel
theorem dX4_meetingPlace_24 : decode cX4_meetingPlace 24 = .ok (.iload_n 2, 1) := by decide +kernel
theorem dX4_meetingPlace_25 : decode cX4_meetingPlace 25 = .ok (.iaload, 1) := by decide +kernel
theorem dX4_meetingPlace_26 : decode cX4_meetingPlace 26 = .ok (.aload_n 0, 1) := by decide +kernel
theorem dX4_meetingPlace_27 : decode cX4_meetingPlace 27 = .ok (.getfield 55, 3) := by decide +kernel
theorem dX4_meetingPlace_30 : decode cX4_meetingPlace 30 = .ok (.iload_n 3, 1) := by decide +kernel
theorem dX4_meetingPlace_31 : decode cX4_meetingPlace 31 = .ok (.iaload, 1) := by decide +kernel
theorem dX4_meetingPlace_32 : decode cX4_meetingPlace 32 = .ok (.if_icmp .ne 26, 3) := by decide +kernel
theorem dX4_meetingPlace_35 : decode cX4_meetingPlace 35 = .ok (.iload_n 1, 1) := by decide +kernel
theorem dX4_meetingPlace_36 : decode cX4_meetingPlace 36 = .ok (.ldc 87, 2) := by decide +kernel
theorem dX4_meetingPlace_38 : decode cX4_meetingPlace 38 = .ok (.if_icmp .eq 13, 3) := by decide +kernel
theorem dX4_meetingPlace_41 : decode cX4_meetingPlace 41 = .ok (.aload_n 0, 1) := by decide +kernel
theorem dX4_meetingPlace_42 : decode cX4_meetingPlace 42 = .ok (.getfield 55, 3) := by decide +kernel
theorem dX4_meetingPlace_45 : decode cX4_meetingPlace 45 = .ok (.iload_n 2, 1) := by decide +kernel
theorem dX4_meetingPlace_46 : decode cX4_meetingPlace 46 = .ok (.iaload, 1) := by decide +kernel
theorem dX4_meetingPlace_47 : decode cX4_meetingPlace 47 = .ok (.iload_n 1, 1) := by decide +kernel
theorem dX4_meetingPlace_48 : decode cX4_meetingPlace 48 = .ok (.if_icmp .ge 10, 3) := by decide +kernel
theorem dX4_meetingPlace_51 : decode cX4_meetingPlace 51 = .ok (.aload_n 0, 1) := by decide +kernel
theorem dX4_meetingPlace_52 : decode cX4_meetingPlace 52 = .ok (.getfield 55, 3) := by decide +kernel
theorem dX4_meetingPlace_55 : decode cX4_meetingPlace 55 = .ok (.iload_n 2, 1) := by decide +kernel
theorem dX4_meetingPlace_56 : decode cX4_meetingPlace 56 = .ok (.iaload, 1) := by decide +kernel
theorem dX4_meetingPlace_57 : decode cX4_meetingPlace 57 = .ok (.istore_n 1, 1) := by decide +kernel
theorem dX4_meetingPlace_58 : decode cX4_meetingPlace 58 = .ok (.iinc 3 1, 3) := by decide +kernel
theorem dX4_meetingPlace_61 : decode cX4_meetingPlace 61 = .ok (.goto (-46), 3) := by decide +kernel
theorem dX4_meetingPlace_64 : decode cX4_meetingPlace 64 = .ok (.iinc 2 1, 3) := by decide +kernel
theorem dX4_meetingPlace_67 : decode cX4_meetingPlace 67 = .ok (.goto (-62), 3) := by decide +kernel
theorem dX4_meetingPlace_70 : decode cX4_meetingPlace 70 = .ok (.iload_n 1, 1) := by decide +kernel
theorem dX4_meetingPlace_71 : decode cX4_meetingPlace 71 = .ok (.ireturn, 1) := by decide +kernel
theorem dX4_mostSlept_0 : decode cX4_mostSlept 0 = .ok (.iconst 0, 1) := by decide +kernel
theorem dX4_mostSlept_1 : decode cX4_mostSlept 1 = .ok (.istore_n 1, 1) := by decide +kernel
theorem dX4_mostSlept_2 : decode cX4_mostSlept 2 = .ok (.iconst 1, 1) := by decide +kernel
theorem dX4_mostSlept_3 : decode cX4_mostSlept 3 = .ok (.istore_n 2, 1) := by decide +kernel
theorem dX4_mostSlept_4 : decode cX4_mostSlept 4 = .ok (.iload_n 2, 1) := by decide +kernel
theorem dX4_mostSlept_5 : decode cX4_mostSlept 5 = .ok (.aload_n 0, 1) := by decide +kernel
theorem dX4_mostSlept_6 : decode cX4_mostSlept 6 = .ok (.getfield 9, 3) := by decide +kernel
theorem dX4_mostSlept_9 : decode cX4_mostSlept 9 = .ok (.if_icmp .ge 26, 3) := by decide +kernel
theorem dX4_mostSlept_12 : decode cX4_mostSlept 12 = .ok (.aload_n 0, 1) := by decide +kernel
theorem dX4_mostSlept_13 : decode cX4_mostSlept 13 = .ok (.getfield 46, 3) := by decide +kernel
theorem dX4_mostSlept_16 : decode cX4_mostSlept 16 = .ok (.iload_n 2, 1) := by decide +kernel
theorem dX4_mostSlept_17 : decode cX4_mostSlept 17 = .ok (.iaload, 1) := by decide +kernel
theorem dX4_mostSlept_18 : decode cX4_mostSlept 18 = .ok (.aload_n 0, 1) := by decide +kernel
theorem dX4_mostSlept_19 : decode cX4_mostSlept 19 = .ok (.getfield 46, 3) := by decide +kernel
theorem dX4_mostSlept_22 : decode cX4_mostSlept 22 = .ok (.iload_n 1, 1) := by decide +kernel
theorem dX4_mostSlept_23 : decode cX4_mostSlept 23 = .ok (.iaload, 1) := by decide +kernel
theorem dX4_mostSlept_24 : decode cX4_mostSlept 24 = .ok (.if_icmp .le 5, 3) := by decide +kernel
theorem dX4_mostSlept_27 : decode cX4_mostSlept 27 = .ok (.iload_n 2, 1) := by decide +kernel
theorem dX4_mostSlept_28 : decode cX4_mostSlept 28 = .ok (.istore_n 1, 1) := by decide +kernel
theorem dX4_mostSlept_29 : decode cX4_mostSlept 29 = .ok (.iinc 2 1, 3) := by decide +kernel
theorem dX4_mostSlept_32 : decode cX4_mostSlept 32 = .ok (.goto (-28), 3) := by decide +kernel
theorem dX4_mostSlept_35 : decode cX4_mostSlept 35 = .ok (.iload_n 1, 1) := by decide +kernel
theorem dX4_mostSlept_36 : decode cX4_mostSlept 36 = .ok (.ireturn, 1) := by decide +kernel
theorem dX4_keepOnly_0 : decode cX4_keepOnly 0 = .ok (.aload_n 0, 1) := by decide +kernel
theorem dX4_keepOnly_1 : decode cX4_keepOnly 1 = .ok (.getfield 52, 3) := by decide +kernel
theorem dX4_keepOnly_4 : decode cX4_keepOnly 4 = .ok (.iconst 0, 1) := by decide +kernel
theorem dX4_keepOnly_5 : decode cX4_keepOnly 5 = .ok (.aload_n 0, 1) := by decide +kernel
theorem dX4_keepOnly_6 : decode cX4_keepOnly 6 = .ok (.getfield 52, 3) := by decide +kernel
theorem dX4_keepOnly_9 : decode cX4_keepOnly 9 = .ok (.iload_n 1, 1) := by decide +kernel
theorem dX4_keepOnly_10 : decode cX4_keepOnly 10 = .ok (.iaload, 1) := by decide +kernel
theorem dX4_keepOnly_11 : decode cX4_keepOnly 11 = .ok (.iastore, 1) := by decide +kernel
theorem dX4_keepOnly_12 : decode cX4_keepOnly 12 = .ok (.aload_n 0, 1) := by decide +kernel
theorem dX4_keepOnly_13 : decode cX4_keepOnly 13 = .ok (.getfield 55, 3) := by decide +kernel
theorem dX4_keepOnly_16 : decode cX4_keepOnly 16 = .ok (.iconst 0, 1) := by decide +kernel
theorem dX4_keepOnly_17 : decode cX4_keepOnly 17 = .ok (.aload_n 0, 1) := by decide +kernel
theorem dX4_keepOnly_18 : decode cX4_keepOnly 18 = .ok (.getfield 55, 3) := by decide +kernel
theorem dX4_keepOnly_21 : decode cX4_keepOnly 21 = .ok (.iload_n 1, 1) := by decide +kernel
theorem dX4_keepOnly_22 : decode cX4_keepOnly 22 = .ok (.iaload, 1) := by decide +kernel
theorem dX4_keepOnly_23 : decode cX4_keepOnly 23 = .ok (.iastore, 1) := by decide +kernel
theorem dX4_keepOnly_24 : decode cX4_keepOnly 24 = .ok (.aload_n 0, 1) := by decide +kernel
theorem dX4_keepOnly_25 : decode cX4_keepOnly 25 = .ok (.getfield 58, 3) := by decide +kernel
theorem dX4_keepOnly_28 : decode cX4_keepOnly 28 = .ok (.iconst 0, 1) := by decide +kernel
theorem dX4_keepOnly_29 : decode cX4_keepOnly 29 = .ok (.aload_n 0, 1) := by decide +kernel
theorem dX4_keepOnly_30 : decode cX4_keepOnly 30 = .ok (.getfield 58, 3) := by decide +kernel
theorem dX4_keepOnly_33 : decode cX4_keepOnly 33 = .ok (.iload_n 1, 1) := by decide +kernel
theorem dX4_keepOnly_34 : decode cX4_keepOnly 34 = .ok (.iaload, 1) := by decide +kernel
theorem dX4_keepOnly_35 : decode cX4_keepOnly 35 = .ok (.iastore, 1) := by decide +kernel
theorem dX4_keepOnly_36 : decode cX4_keepOnly 36 = .ok (.aload_n 0, 1) := by decide +kernel
theorem dX4_keepOnly_37 : decode cX4_keepOnly 37 = .ok (.iconst 1, 1) := by decide +kernel
theorem dX4_keepOnly_38 : decode cX4_keepOnly 38 = .ok (.putfield 18, 3) := by decide +kernel
theorem dX4_keepOnly_41 : decode cX4_keepOnly 41 = .ok (.return_, 1) := by decide +kernel
theorem lq_X5_init_0 {w : Cond} (h : w ∈ ([.methodLink RX5 3 objectInit, .instanceMethod objectInit, .code objectInit ⟨#[0xb1]⟩ 1 none, .arrayClass .int, .fieldLink RX5 11 "WinterWalk$Rows" "lanes" "[I", .fieldLink RX5 15 "WinterWalk$Rows" "sizes" "[I", .fieldLink RX5 18 "WinterWalk$Rows" "items" "[I", .methodLink RX5 21 yJ7_fill_53178, .static yJ7_fill_53178, .initialized RJ7, .code yJ7_fill_53178 cJ7_fill_53178 4 none] : List Cond)) : w ∈ wsX5_init := List.mem_cons_of_mem _ (List.mem_append_left _ (h))
theorem lt_X5_init_X5 : ∀ w ∈ wsX50, w ∈ wsX5_init := fun _ h => List.mem_cons_of_mem _ (List.mem_append_right _ (h))
set_option maxRecDepth 20000 in
theorem ggX5_init_J7_fill_53178 : GoodIn wsX5_init wsJ7_fill_53178 := goodIn_sub (List.forall_mem_cons.mpr ⟨lq_X5_init_0 (List.mem_of_getElem? (i := 10) rfl), (show ∀ w ∈ ([] : List Cond), w ∈ wsX5_init from fun _ h => absurd h List.not_mem_nil)⟩) (by decide +kernel)
set_option maxRecDepth 20000 in
theorem gX5_init_J7_fill_53178 : GoodIn wsX5_init (va_wsS RX5 21 yJ7_fill_53178 wsJ7_fill_53178) := goodIn_app (goodIn_sub (List.forall_mem_cons.mpr ⟨lq_X5_init_0 (List.mem_of_getElem? (i := 7) rfl), List.forall_mem_cons.mpr ⟨lq_X5_init_0 (List.mem_of_getElem? (i := 8) rfl), List.forall_mem_cons.mpr ⟨lq_X5_init_0 (List.mem_of_getElem? (i := 9) rfl), fun _ h => absurd h List.not_mem_nil⟩⟩⟩) (by decide +kernel)) ggX5_init_J7_fill_53178
theorem dX5_init_0 : decode cX5_init 0 = .ok (.aload_n 0, 1) := by decide +kernel
theorem dX5_init_1 : decode cX5_init 1 = .ok (.invokespecial 3, 3) := by decide +kernel
theorem dX5_init_4 : decode cX5_init 4 = .ok (.aload_n 0, 1) := by decide +kernel
theorem dX5_init_5 : decode cX5_init 5 = .ok (.bipush 8, 2) := by decide +kernel
theorem dX5_init_7 : decode cX5_init 7 = .ok (.newarray .int, 2) := by decide +kernel
theorem dX5_init_9 : decode cX5_init 9 = .ok (.putfield 11, 3) := by decide +kernel
theorem dX5_init_12 : decode cX5_init 12 = .ok (.aload_n 0, 1) := by decide +kernel
theorem dX5_init_13 : decode cX5_init 13 = .ok (.bipush 8, 2) := by decide +kernel
theorem dX5_init_15 : decode cX5_init 15 = .ok (.newarray .int, 2) := by decide +kernel
theorem dX5_init_17 : decode cX5_init 17 = .ok (.putfield 15, 3) := by decide +kernel
theorem dX5_init_20 : decode cX5_init 20 = .ok (.aload_n 0, 1) := by decide +kernel
theorem dX5_init_21 : decode cX5_init 21 = .ok (.sipush 320, 3) := by decide +kernel
theorem dX5_init_24 : decode cX5_init 24 = .ok (.newarray .int, 2) := by decide +kernel
theorem dX5_init_26 : decode cX5_init 26 = .ok (.putfield 18, 3) := by decide +kernel
theorem dX5_init_29 : decode cX5_init 29 = .ok (.aload_n 0, 1) := by decide +kernel
theorem dX5_init_30 : decode cX5_init 30 = .ok (.getfield 11, 3) := by decide +kernel
theorem dX5_init_33 : decode cX5_init 33 = .ok (.iconst (-1), 1) := by decide +kernel
theorem dX5_init_34 : decode cX5_init 34 = .ok (.invokestatic 21, 3) := by decide +kernel
theorem dX5_init_37 : decode cX5_init 37 = .ok (.return_, 1) := by decide +kernel
theorem lq_X5_isRow_0 {w : Cond} (h : w ∈ ([.static yX7_isFrom, .initialized RX7, .code yX7_isFrom cX7_isFrom 3 (some .boolean)] : List Cond)) : w ∈ wsX5_isRow := List.mem_cons_of_mem _ (h)
set_option maxRecDepth 20000 in
theorem ggX5_isRow_X7_isFrom : GoodIn wsX5_isRow wsX7_isFrom := goodIn_sub (List.forall_mem_cons.mpr ⟨lq_X5_isRow_0 (List.mem_of_getElem? (i := 2) rfl), (show ∀ w ∈ ([] : List Cond), w ∈ wsX5_isRow from fun _ h => absurd h List.not_mem_nil)⟩) (by decide +kernel)
theorem gX5_isRow_X7_isFrom_n27 : GoodIn wsX5_isRow (wsX7_isFrom) := ggX5_isRow_X7_isFrom
theorem dX5_isRow_0 : decode cX5_isRow 0 = .ok (.iconst 0, 1) := by decide +kernel
theorem dX5_isRow_1 : decode cX5_isRow 1 = .ok (.iload_n 0, 1) := by decide +kernel
theorem dX5_isRow_2 : decode cX5_isRow 2 = .ok (.bipush 7, 2) := by decide +kernel
theorem dX5_isRow_4 : decode cX5_isRow 4 = .ok (.invokestatic 27, 3) := by decide +kernel
theorem dX5_isRow_7 : decode cX5_isRow 7 = .ok (.ireturn, 1) := by decide +kernel
theorem lq_X5_isLane_0 {w : Cond} (h : w ∈ ([.static yX7_isFrom, .initialized RX7, .code yX7_isFrom cX7_isFrom 3 (some .boolean)] : List Cond)) : w ∈ wsX5_isLane := List.mem_cons_of_mem _ (h)
set_option maxRecDepth 20000 in
theorem ggX5_isLane_X7_isFrom : GoodIn wsX5_isLane wsX7_isFrom := goodIn_sub (List.forall_mem_cons.mpr ⟨lq_X5_isLane_0 (List.mem_of_getElem? (i := 2) rfl), (show ∀ w ∈ ([] : List Cond), w ∈ wsX5_isLane from fun _ h => absurd h List.not_mem_nil)⟩) (by decide +kernel)
theorem gX5_isLane_X7_isFrom_n27 : GoodIn wsX5_isLane (wsX7_isFrom) := ggX5_isLane_X7_isFrom
theorem dX5_isLane_0 : decode cX5_isLane 0 = .ok (.iconst 0, 1) := by decide +kernel
theorem dX5_isLane_1 : decode cX5_isLane 1 = .ok (.iload_n 0, 1) := by decide +kernel
theorem dX5_isLane_2 : decode cX5_isLane 2 = .ok (.iconst 2, 1) := by decide +kernel
theorem dX5_isLane_3 : decode cX5_isLane 3 = .ok (.invokestatic 27, 3) := by decide +kernel
theorem dX5_isLane_6 : decode cX5_isLane 6 = .ok (.ireturn, 1) := by decide +kernel
theorem dX5_isMissing_0 : decode cX5_isMissing 0 = .ok (.aload_n 0, 1) := by decide +kernel
theorem dX5_isMissing_1 : decode cX5_isMissing 1 = .ok (.getfield 11, 3) := by decide +kernel
theorem dX5_isMissing_4 : decode cX5_isMissing 4 = .ok (.iload_n 1, 1) := by decide +kernel
theorem dX5_isMissing_5 : decode cX5_isMissing 5 = .ok (.iaload, 1) := by decide +kernel
theorem dX5_isMissing_6 : decode cX5_isMissing 6 = .ok (.iconst (-1), 1) := by decide +kernel
theorem dX5_isMissing_7 : decode cX5_isMissing 7 = .ok (.if_icmp .ne 7, 3) := by decide +kernel
theorem dX5_isMissing_10 : decode cX5_isMissing 10 = .ok (.iconst 1, 1) := by decide +kernel
theorem dX5_isMissing_11 : decode cX5_isMissing 11 = .ok (.goto 4, 3) := by decide +kernel
theorem dX5_isMissing_14 : decode cX5_isMissing 14 = .ok (.iconst 0, 1) := by decide +kernel
theorem dX5_isMissing_15 : decode cX5_isMissing 15 = .ok (.ireturn, 1) := by decide +kernel
theorem lq_X5_howMany_0 {w : Cond} (h : w ∈ ([.methodLink RX5 31 yX5_isMissing, .instanceMethod yX5_isMissing, .selects RX5 yX5_isMissing yX5_isMissing, .initialized RX5, .code yX5_isMissing cX5_isMissing 2 (some .boolean), .fieldLink RX5 11 "WinterWalk$Rows" "lanes" "[I"] : List Cond)) : w ∈ wsX5_howMany := List.mem_cons_of_mem _ (List.mem_append_left _ (h))
theorem lt_X5_howMany_X5 : ∀ w ∈ wsX50, w ∈ wsX5_howMany := fun _ h => List.mem_cons_of_mem _ (List.mem_append_right _ (h))
set_option maxRecDepth 20000 in
theorem ggX5_howMany_X5_isMissing : GoodIn wsX5_howMany wsX5_isMissing := goodIn_sub (List.forall_mem_cons.mpr ⟨lq_X5_howMany_0 (List.mem_of_getElem? (i := 4) rfl), (List.forall_mem_append.mpr ⟨(show ∀ w ∈ ([.fieldLink RX5 11 "WinterWalk$Rows" "lanes" "[I"] : List Cond), w ∈ wsX5_howMany from List.forall_mem_cons.mpr ⟨lq_X5_howMany_0 (List.mem_of_getElem? (i := 5) rfl), fun _ h => absurd h List.not_mem_nil⟩), lt_X5_howMany_X5⟩)⟩) (by decide +kernel)
set_option maxRecDepth 20000 in
theorem gX5_howMany_X5_isMissing : GoodIn wsX5_howMany (wsV RX5 31 RX5 yX5_isMissing wsX5_isMissing) := goodIn_app (goodIn_sub (List.forall_mem_cons.mpr ⟨lq_X5_howMany_0 (List.mem_of_getElem? (i := 0) rfl), List.forall_mem_cons.mpr ⟨lq_X5_howMany_0 (List.mem_of_getElem? (i := 1) rfl), List.forall_mem_cons.mpr ⟨lq_X5_howMany_0 (List.mem_of_getElem? (i := 2) rfl), List.forall_mem_cons.mpr ⟨lq_X5_howMany_0 (List.mem_of_getElem? (i := 3) rfl), fun _ h => absurd h List.not_mem_nil⟩⟩⟩⟩) (by decide +kernel)) ggX5_howMany_X5_isMissing
theorem dX5_howMany_0 : decode cX5_howMany 0 = .ok (.iconst 0, 1) := by decide +kernel
theorem dX5_howMany_1 : decode cX5_howMany 1 = .ok (.istore_n 1, 1) := by decide +kernel
theorem dX5_howMany_2 : decode cX5_howMany 2 = .ok (.iconst 0, 1) := by decide +kernel
theorem dX5_howMany_3 : decode cX5_howMany 3 = .ok (.istore_n 2, 1) := by decide +kernel
theorem dX5_howMany_4 : decode cX5_howMany 4 = .ok (.iload_n 2, 1) := by decide +kernel
theorem dX5_howMany_5 : decode cX5_howMany 5 = .ok (.bipush 8, 2) := by decide +kernel
theorem dX5_howMany_7 : decode cX5_howMany 7 = .ok (.if_icmp .ge 20, 3) := by decide +kernel
theorem dX5_howMany_10 : decode cX5_howMany 10 = .ok (.aload_n 0, 1) := by decide +kernel
theorem dX5_howMany_11 : decode cX5_howMany 11 = .ok (.iload_n 2, 1) := by decide +kernel
theorem dX5_howMany_12 : decode cX5_howMany 12 = .ok (.invokevirtual 31, 3) := by decide +kernel
theorem dX5_howMany_15 : decode cX5_howMany 15 = .ok (.ifCond .ne 6, 3) := by decide +kernel
theorem dX5_howMany_18 : decode cX5_howMany 18 = .ok (.iinc 1 1, 3) := by decide +kernel
theorem dX5_howMany_21 : decode cX5_howMany 21 = .ok (.iinc 2 1, 3) := by decide +kernel
theorem dX5_howMany_24 : decode cX5_howMany 24 = .ok (.goto (-20), 3) := by decide +kernel
theorem dX5_howMany_27 : decode cX5_howMany 27 = .ok (.iload_n 1, 1) := by decide +kernel
theorem dX5_howMany_28 : decode cX5_howMany 28 = .ok (.ireturn, 1) := by decide +kernel
theorem lq_X5_lay_0 {w : Cond} (h : w ∈ ([.fieldLink RX5 11 "WinterWalk$Rows" "lanes" "[I", .fieldLink RX5 15 "WinterWalk$Rows" "sizes" "[I", .fieldLink RX5 18 "WinterWalk$Rows" "items" "[I", .methodLink RX5 35 yJ7_fill_fda19, .static yJ7_fill_fda19, .initialized RJ7, .code yJ7_fill_fda19 cJ7_fill_fda19 5 none, .methodLink RJ7 13 yJ7_rangeCheck_23922, .static yJ7_rangeCheck_23922, .code yJ7_rangeCheck_23922 cJ7_rangeCheck_23922 3 none] : List Cond)) : w ∈ wsX5_lay := List.mem_cons_of_mem _ (List.mem_append_left _ (h))
theorem lt_X5_lay_X5 : ∀ w ∈ wsX50, w ∈ wsX5_lay := fun _ h => List.mem_cons_of_mem _ (List.mem_append_right _ (h))
set_option maxRecDepth 20000 in
theorem ggX5_lay_J7_fill_fda19 : GoodIn wsX5_lay wsJ7_fill_fda19 := goodIn_sub (List.forall_mem_cons.mpr ⟨lq_X5_lay_0 (List.mem_of_getElem? (i := 6) rfl), (show ∀ w ∈ ([.methodLink RJ7 13 yJ7_rangeCheck_23922, .static yJ7_rangeCheck_23922, .initialized RJ7, .code yJ7_rangeCheck_23922 cJ7_rangeCheck_23922 3 none] : List Cond), w ∈ wsX5_lay from List.forall_mem_cons.mpr ⟨lq_X5_lay_0 (List.mem_of_getElem? (i := 7) rfl), List.forall_mem_cons.mpr ⟨lq_X5_lay_0 (List.mem_of_getElem? (i := 8) rfl), List.forall_mem_cons.mpr ⟨lq_X5_lay_0 (List.mem_of_getElem? (i := 5) rfl), List.forall_mem_cons.mpr ⟨lq_X5_lay_0 (List.mem_of_getElem? (i := 9) rfl), fun _ h => absurd h List.not_mem_nil⟩⟩⟩⟩)⟩) (by decide +kernel)
set_option maxRecDepth 20000 in
theorem gX5_lay_J7_fill_fda19 : GoodIn wsX5_lay (va_wsS RX5 35 yJ7_fill_fda19 wsJ7_fill_fda19) := goodIn_app (goodIn_sub (List.forall_mem_cons.mpr ⟨lq_X5_lay_0 (List.mem_of_getElem? (i := 3) rfl), List.forall_mem_cons.mpr ⟨lq_X5_lay_0 (List.mem_of_getElem? (i := 4) rfl), List.forall_mem_cons.mpr ⟨lq_X5_lay_0 (List.mem_of_getElem? (i := 5) rfl), fun _ h => absurd h List.not_mem_nil⟩⟩⟩) (by decide +kernel)) ggX5_lay_J7_fill_fda19
theorem dX5_lay_0 : decode cX5_lay 0 = .ok (.aload_n 0, 1) := by decide +kernel
theorem dX5_lay_1 : decode cX5_lay 1 = .ok (.getfield 11, 3) := by decide +kernel
theorem dX5_lay_4 : decode cX5_lay 4 = .ok (.iload_n 1, 1) := by decide +kernel
theorem dX5_lay_5 : decode cX5_lay 5 = .ok (.iload_n 2, 1) := by decide +kernel
theorem dX5_lay_6 : decode cX5_lay 6 = .ok (.iastore, 1) := by decide +kernel
theorem dX5_lay_7 : decode cX5_lay 7 = .ok (.aload_n 0, 1) := by decide +kernel
theorem dX5_lay_8 : decode cX5_lay 8 = .ok (.getfield 15, 3) := by decide +kernel
theorem dX5_lay_11 : decode cX5_lay 11 = .ok (.iload_n 1, 1) := by decide +kernel
theorem dX5_lay_12 : decode cX5_lay 12 = .ok (.iload_n 3, 1) := by decide +kernel
theorem dX5_lay_13 : decode cX5_lay 13 = .ok (.iastore, 1) := by decide +kernel
theorem dX5_lay_14 : decode cX5_lay 14 = .ok (.aload_n 0, 1) := by decide +kernel
theorem dX5_lay_15 : decode cX5_lay 15 = .ok (.getfield 18, 3) := by decide +kernel
theorem dX5_lay_18 : decode cX5_lay 18 = .ok (.iload_n 1, 1) := by decide +kernel
theorem dX5_lay_19 : decode cX5_lay 19 = .ok (.bipush 40, 2) := by decide +kernel
theorem dX5_lay_21 : decode cX5_lay 21 = .ok (.imul, 1) := by decide +kernel
theorem dX5_lay_22 : decode cX5_lay 22 = .ok (.iload_n 1, 1) := by decide +kernel
theorem dX5_lay_23 : decode cX5_lay 23 = .ok (.iconst 1, 1) := by decide +kernel
theorem dX5_lay_24 : decode cX5_lay 24 = .ok (.iadd, 1) := by decide +kernel
theorem dX5_lay_25 : decode cX5_lay 25 = .ok (.bipush 40, 2) := by decide +kernel
theorem dX5_lay_27 : decode cX5_lay 27 = .ok (.imul, 1) := by decide +kernel
theorem dX5_lay_28 : decode cX5_lay 28 = .ok (.iconst 0, 1) := by decide +kernel
theorem dX5_lay_29 : decode cX5_lay 29 = .ok (.invokestatic 35, 3) := by decide +kernel
theorem dX5_lay_32 : decode cX5_lay 32 = .ok (.return_, 1) := by decide +kernel
theorem dX5_takeAway_0 : decode cX5_takeAway 0 = .ok (.aload_n 0, 1) := by decide +kernel
theorem dX5_takeAway_1 : decode cX5_takeAway 1 = .ok (.getfield 11, 3) := by decide +kernel
theorem dX5_takeAway_4 : decode cX5_takeAway 4 = .ok (.iload_n 1, 1) := by decide +kernel
theorem dX5_takeAway_5 : decode cX5_takeAway 5 = .ok (.iconst (-1), 1) := by decide +kernel
theorem dX5_takeAway_6 : decode cX5_takeAway 6 = .ok (.iastore, 1) := by decide +kernel
theorem dX5_takeAway_7 : decode cX5_takeAway 7 = .ok (.aload_n 0, 1) := by decide +kernel
theorem dX5_takeAway_8 : decode cX5_takeAway 8 = .ok (.getfield 15, 3) := by decide +kernel
theorem dX5_takeAway_11 : decode cX5_takeAway 11 = .ok (.iload_n 1, 1) := by decide +kernel
theorem dX5_takeAway_12 : decode cX5_takeAway 12 = .ok (.iaload, 1) := by decide +kernel
theorem dX5_takeAway_13 : decode cX5_takeAway 13 = .ok (.ireturn, 1) := by decide +kernel
theorem lq_X5_troubleWith_0 {w : Cond} (h : w ∈ ([.methodLink RX5 31 yX5_isMissing, .instanceMethod yX5_isMissing, .selects RX5 yX5_isMissing yX5_isMissing, .initialized RX5, .code yX5_isMissing cX5_isMissing 2 (some .boolean), .fieldLink RX5 11 "WinterWalk$Rows" "lanes" "[I", .methodLink RX5 38 yX5_holds, .instanceMethod yX5_holds, .selects RX5 yX5_holds yX5_holds, .code yX5_holds cX5_holds 4 (some .boolean), .fieldLink RX5 15 "WinterWalk$Rows" "sizes" "[I"] : List Cond)) : w ∈ wsX5_troubleWith := List.mem_cons_of_mem _ (List.mem_append_left _ (h))
theorem lt_X5_troubleWith_X5 : ∀ w ∈ wsX50, w ∈ wsX5_troubleWith := fun _ h => List.mem_cons_of_mem _ (List.mem_append_right _ (h))
set_option maxRecDepth 20000 in
theorem ggX5_troubleWith_X5_isMissing : GoodIn wsX5_troubleWith wsX5_isMissing := goodIn_sub (List.forall_mem_cons.mpr ⟨lq_X5_troubleWith_0 (List.mem_of_getElem? (i := 4) rfl), (List.forall_mem_append.mpr ⟨(show ∀ w ∈ ([.fieldLink RX5 11 "WinterWalk$Rows" "lanes" "[I"] : List Cond), w ∈ wsX5_troubleWith from List.forall_mem_cons.mpr ⟨lq_X5_troubleWith_0 (List.mem_of_getElem? (i := 5) rfl), fun _ h => absurd h List.not_mem_nil⟩), lt_X5_troubleWith_X5⟩)⟩) (by decide +kernel)
set_option maxRecDepth 20000 in
theorem gX5_troubleWith_X5_isMissing : GoodIn wsX5_troubleWith (wsV RX5 31 RX5 yX5_isMissing wsX5_isMissing) := goodIn_app (goodIn_sub (List.forall_mem_cons.mpr ⟨lq_X5_troubleWith_0 (List.mem_of_getElem? (i := 0) rfl), List.forall_mem_cons.mpr ⟨lq_X5_troubleWith_0 (List.mem_of_getElem? (i := 1) rfl), List.forall_mem_cons.mpr ⟨lq_X5_troubleWith_0 (List.mem_of_getElem? (i := 2) rfl), List.forall_mem_cons.mpr ⟨lq_X5_troubleWith_0 (List.mem_of_getElem? (i := 3) rfl), fun _ h => absurd h List.not_mem_nil⟩⟩⟩⟩) (by decide +kernel)) ggX5_troubleWith_X5_isMissing
set_option maxRecDepth 20000 in
theorem ggX5_troubleWith_X5_holds : GoodIn wsX5_troubleWith wsX5_holds := goodIn_sub (List.forall_mem_cons.mpr ⟨lq_X5_troubleWith_0 (List.mem_of_getElem? (i := 9) rfl), (List.forall_mem_append.mpr ⟨(show ∀ w ∈ ([.fieldLink RX5 15 "WinterWalk$Rows" "sizes" "[I"] : List Cond), w ∈ wsX5_troubleWith from List.forall_mem_cons.mpr ⟨lq_X5_troubleWith_0 (List.mem_of_getElem? (i := 10) rfl), fun _ h => absurd h List.not_mem_nil⟩), lt_X5_troubleWith_X5⟩)⟩) (by decide +kernel)
set_option maxRecDepth 20000 in
theorem gX5_troubleWith_X5_holds : GoodIn wsX5_troubleWith (wsV RX5 38 RX5 yX5_holds wsX5_holds) := goodIn_app (goodIn_sub (List.forall_mem_cons.mpr ⟨lq_X5_troubleWith_0 (List.mem_of_getElem? (i := 6) rfl), List.forall_mem_cons.mpr ⟨lq_X5_troubleWith_0 (List.mem_of_getElem? (i := 7) rfl), List.forall_mem_cons.mpr ⟨lq_X5_troubleWith_0 (List.mem_of_getElem? (i := 8) rfl), List.forall_mem_cons.mpr ⟨lq_X5_troubleWith_0 (List.mem_of_getElem? (i := 3) rfl), fun _ h => absurd h List.not_mem_nil⟩⟩⟩⟩) (by decide +kernel)) ggX5_troubleWith_X5_holds
theorem dX5_troubleWith_0 : decode cX5_troubleWith 0 = .ok (.aload_n 0, 1) := by decide +kernel
theorem dX5_troubleWith_1 : decode cX5_troubleWith 1 = .ok (.iload_n 1, 1) := by decide +kernel
theorem dX5_troubleWith_2 : decode cX5_troubleWith 2 = .ok (.invokevirtual 31, 3) := by decide +kernel
theorem dX5_troubleWith_5 : decode cX5_troubleWith 5 = .ok (.ifCond .eq 5, 3) := by decide +kernel
theorem dX5_troubleWith_8 : decode cX5_troubleWith 8 = .ok (.iconst 1, 1) := by decide +kernel
theorem dX5_troubleWith_9 : decode cX5_troubleWith 9 = .ok (.ireturn, 1) := by decide +kernel
theorem dX5_troubleWith_10 : decode cX5_troubleWith 10 = .ok (.aload_n 0, 1) := by decide +kernel
theorem dX5_troubleWith_11 : decode cX5_troubleWith 11 = .ok (.iload_n 1, 1) := by decide +kernel
theorem dX5_troubleWith_12 : decode cX5_troubleWith 12 = .ok (.iload_n 2, 1) := by decide +kernel
theorem dX5_troubleWith_13 : decode cX5_troubleWith 13 = .ok (.iload_n 3, 1) := by decide +kernel
theorem dX5_troubleWith_14 : decode cX5_troubleWith 14 = .ok (.invokevirtual 38, 3) := by decide +kernel
theorem dX5_troubleWith_17 : decode cX5_troubleWith 17 = .ok (.ifCond .eq 7, 3) := by decide +kernel
theorem dX5_troubleWith_20 : decode cX5_troubleWith 20 = .ok (.iconst 0, 1) := by decide +kernel
theorem dX5_troubleWith_21 : decode cX5_troubleWith 21 = .ok (.goto 4, 3) := by decide +kernel
theorem dX5_troubleWith_24 : decode cX5_troubleWith 24 = .ok (.iconst 2, 1) := by decide +kernel
theorem dX5_troubleWith_25 : decode cX5_troubleWith 25 = .ok (.ireturn, 1) := by decide +kernel
theorem lq_X5_troubleBetween_0 {w : Cond} (h : w ∈ ([.fieldLink RX5 11 "WinterWalk$Rows" "lanes" "[I", .methodLink RX5 31 yX5_isMissing, .instanceMethod yX5_isMissing, .selects RX5 yX5_isMissing yX5_isMissing, .initialized RX5, .code yX5_isMissing cX5_isMissing 2 (some .boolean), .methodLink RX5 38 yX5_holds, .instanceMethod yX5_holds, .selects RX5 yX5_holds yX5_holds, .code yX5_holds cX5_holds 4 (some .boolean), .fieldLink RX5 15 "WinterWalk$Rows" "sizes" "[I"] : List Cond)) : w ∈ wsX5_troubleBetween := List.mem_cons_of_mem _ (List.mem_append_left _ (h))
theorem lt_X5_troubleBetween_X5 : ∀ w ∈ wsX50, w ∈ wsX5_troubleBetween := fun _ h => List.mem_cons_of_mem _ (List.mem_append_right _ (h))
set_option maxRecDepth 20000 in
theorem ggX5_troubleBetween_X5_isMissing : GoodIn wsX5_troubleBetween wsX5_isMissing := goodIn_sub (List.forall_mem_cons.mpr ⟨lq_X5_troubleBetween_0 (List.mem_of_getElem? (i := 5) rfl), (List.forall_mem_append.mpr ⟨(show ∀ w ∈ ([.fieldLink RX5 11 "WinterWalk$Rows" "lanes" "[I"] : List Cond), w ∈ wsX5_troubleBetween from List.forall_mem_cons.mpr ⟨lq_X5_troubleBetween_0 (List.mem_of_getElem? (i := 0) rfl), fun _ h => absurd h List.not_mem_nil⟩), lt_X5_troubleBetween_X5⟩)⟩) (by decide +kernel)
set_option maxRecDepth 20000 in
theorem gX5_troubleBetween_X5_isMissing : GoodIn wsX5_troubleBetween (wsV RX5 31 RX5 yX5_isMissing wsX5_isMissing) := goodIn_app (goodIn_sub (List.forall_mem_cons.mpr ⟨lq_X5_troubleBetween_0 (List.mem_of_getElem? (i := 1) rfl), List.forall_mem_cons.mpr ⟨lq_X5_troubleBetween_0 (List.mem_of_getElem? (i := 2) rfl), List.forall_mem_cons.mpr ⟨lq_X5_troubleBetween_0 (List.mem_of_getElem? (i := 3) rfl), List.forall_mem_cons.mpr ⟨lq_X5_troubleBetween_0 (List.mem_of_getElem? (i := 4) rfl), fun _ h => absurd h List.not_mem_nil⟩⟩⟩⟩) (by decide +kernel)) ggX5_troubleBetween_X5_isMissing
set_option maxRecDepth 20000 in
theorem ggX5_troubleBetween_X5_holds : GoodIn wsX5_troubleBetween wsX5_holds := goodIn_sub (List.forall_mem_cons.mpr ⟨lq_X5_troubleBetween_0 (List.mem_of_getElem? (i := 9) rfl), (List.forall_mem_append.mpr ⟨(show ∀ w ∈ ([.fieldLink RX5 15 "WinterWalk$Rows" "sizes" "[I"] : List Cond), w ∈ wsX5_troubleBetween from List.forall_mem_cons.mpr ⟨lq_X5_troubleBetween_0 (List.mem_of_getElem? (i := 10) rfl), fun _ h => absurd h List.not_mem_nil⟩), lt_X5_troubleBetween_X5⟩)⟩) (by decide +kernel)
set_option maxRecDepth 20000 in
theorem gX5_troubleBetween_X5_holds : GoodIn wsX5_troubleBetween (wsV RX5 38 RX5 yX5_holds wsX5_holds) := goodIn_app (goodIn_sub (List.forall_mem_cons.mpr ⟨lq_X5_troubleBetween_0 (List.mem_of_getElem? (i := 6) rfl), List.forall_mem_cons.mpr ⟨lq_X5_troubleBetween_0 (List.mem_of_getElem? (i := 7) rfl), List.forall_mem_cons.mpr ⟨lq_X5_troubleBetween_0 (List.mem_of_getElem? (i := 8) rfl), List.forall_mem_cons.mpr ⟨lq_X5_troubleBetween_0 (List.mem_of_getElem? (i := 4) rfl), fun _ h => absurd h List.not_mem_nil⟩⟩⟩⟩) (by decide +kernel)) ggX5_troubleBetween_X5_holds
theorem dX5_troubleBetween_0 : decode cX5_troubleBetween 0 = .ok (.aload_n 0, 1) := by decide +kernel
