theorem dX5_troubleWith_1 : decode cX5_troubleWith 1 = .ok (.iload_n 1, 1) := by decide +kernel
theorem dX5_troubleWith_2 : decode cX5_troubleWith 2 = .ok (.invokevirtual 31, 3) := by decide +kernel
theorem dX5_troubleWith_5 : decode cX5_troubleWith 5 = .ok (.ifCond .eq 5, 3) := by decide +kernel
theorem dX5_troubleWith_8 : decode cX5_troubleWith 8 = .ok (.iconst 1, 1) := by decide +kernel
theorem dX5_troubleWith_9 : decode cX5_troubleWith 9 = .ok (.ireturn, 1) := by decide +kernel
theorem dX5_troubleWith_10 : decode cX5_troubleWith 10 = .ok (.aload_n 0, 1) := by decide +kernel
theorem dX5_troubleWith_11 : decode cX5_troubleWith 11 = .ok (.iload_n 1, 1) := by decide +kernel
theorem dX5_troubleWith_12 : decode cX5_troubleWith 12 = .ok (.iload_n 2, 1) := by decide +kernel
theorem dX5_troubleWith_13 : decode cX5_troubleWith 13 = .ok (.iload_n 3, 1) := by decide +kernel
theorem dX5_troubleWith_14 : decode cX5_troubleWith 14 = .ok (.invokevirtual 38, 3) := by decide +kernel
theorem dX5_troubleWith_17 : decode cX5_troubleWith 17 = .ok (.ifCond .eq 7, 3) := by decide +kernel
theorem dX5_troubleWith_20 : decode cX5_troubleWith 20 = .ok (.iconst 0, 1) := by decide +kernel
theorem dX5_troubleWith_21 : decode cX5_troubleWith 21 = .ok (.goto 4, 3) := by decide +kernel
theorem dX5_troubleWith_24 : decode cX5_troubleWith 24 = .ok (.iconst 2, 1) := by decide +kernel
theorem dX5_troubleWith_25 : decode cX5_troubleWith 25 = .ok (.ireturn, 1) := by decide +kernel
set_option maxRecDepth 20000 in
theorem ggX5_troubleBetween_X5_isMissing : GoodIn wsX5_troubleBetween wsX5_isMissing := goodIn_r _ [6, 1, 12, 13, 14] (by decide +kernel) (by decide +kernel)
set_option maxRecDepth 20000 in
theorem gX5_troubleBetween_X5_isMissing : GoodIn wsX5_troubleBetween (wsV RX5 31 RX5 yX5_isMissing wsX5_isMissing) := goodIn_app (goodIn_of _ (by decide +kernel)) ggX5_troubleBetween_X5_isMissing
set_option maxRecDepth 20000 in
theorem ggX5_troubleBetween_X5_holds : GoodIn wsX5_troubleBetween wsX5_holds := goodIn_r _ [10, 11, 12, 13, 14] (by decide +kernel) (by decide +kernel)
set_option maxRecDepth 20000 in
theorem gX5_troubleBetween_X5_holds : GoodIn wsX5_troubleBetween (wsV RX5 38 RX5 yX5_holds wsX5_holds) := goodIn_app (goodIn_of _ (by decide +kernel)) ggX5_troubleBetween_X5_holds
theorem dX5_troubleBetween_0 : decode cX5_troubleBetween 0 = .ok (.aload_n 0, 1) := by decide +kernel
theorem dX5_troubleBetween_1 : decode cX5_troubleBetween 1 = .ok (.iload_n 1, 1) := by decide +kernel
theorem dX5_troubleBetween_2 : decode cX5_troubleBetween 2 = .ok (.invokevirtual 31, 3) := by decide +kernel
theorem dX5_troubleBetween_5 : decode cX5_troubleBetween 5 = .ok (.ifCond .ne 11, 3) := by decide +kernel
theorem dX5_troubleBetween_8 : decode cX5_troubleBetween 8 = .ok (.aload_n 0, 1) := by decide +kernel
theorem dX5_troubleBetween_9 : decode cX5_troubleBetween 9 = .ok (.iload_n 3, 1) := by decide +kernel
theorem dX5_troubleBetween_10 : decode cX5_troubleBetween 10 = .ok (.invokevirtual 31, 3) := by decide +kernel
theorem dX5_troubleBetween_13 : decode cX5_troubleBetween 13 = .ok (.ifCond .eq 5, 3) := by decide +kernel
theorem dX5_troubleBetween_16 : decode cX5_troubleBetween 16 = .ok (.iconst 1, 1) := by decide +kernel
theorem dX5_troubleBetween_17 : decode cX5_troubleBetween 17 = .ok (.ireturn, 1) := by decide +kernel
theorem dX5_troubleBetween_18 : decode cX5_troubleBetween 18 = .ok (.aload_n 0, 1) := by decide +kernel
theorem dX5_troubleBetween_19 : decode cX5_troubleBetween 19 = .ok (.getfield 11, 3) := by decide +kernel
theorem dX5_troubleBetween_22 : decode cX5_troubleBetween 22 = .ok (.iload_n 1, 1) := by decide +kernel
theorem dX5_troubleBetween_23 : decode cX5_troubleBetween 23 = .ok (.iaload, 1) := by decide +kernel
theorem dX5_troubleBetween_24 : decode cX5_troubleBetween 24 = .ok (.aload_n 0, 1) := by decide +kernel
theorem dX5_troubleBetween_25 : decode cX5_troubleBetween 25 = .ok (.getfield 11, 3) := by decide +kernel
theorem dX5_troubleBetween_28 : decode cX5_troubleBetween 28 = .ok (.iload_n 3, 1) := by decide +kernel
theorem dX5_troubleBetween_29 : decode cX5_troubleBetween 29 = .ok (.iaload, 1) := by decide +kernel
theorem dX5_troubleBetween_30 : decode cX5_troubleBetween 30 = .ok (.if_icmp .eq 5, 3) := by decide +kernel
theorem dX5_troubleBetween_33 : decode cX5_troubleBetween 33 = .ok (.iconst 5, 1) := by decide +kernel
theorem dX5_troubleBetween_34 : decode cX5_troubleBetween 34 = .ok (.ireturn, 1) := by decide +kernel
theorem dX5_troubleBetween_35 : decode cX5_troubleBetween 35 = .ok (.aload_n 0, 1) := by decide +kernel
theorem dX5_troubleBetween_36 : decode cX5_troubleBetween 36 = .ok (.iload_n 1, 1) := by decide +kernel
theorem dX5_troubleBetween_37 : decode cX5_troubleBetween 37 = .ok (.iload_n 2, 1) := by decide +kernel
theorem dX5_troubleBetween_38 : decode cX5_troubleBetween 38 = .ok (.iload 5, 2) := by decide +kernel
theorem dX5_troubleBetween_40 : decode cX5_troubleBetween 40 = .ok (.invokevirtual 38, 3) := by decide +kernel
theorem dX5_troubleBetween_43 : decode cX5_troubleBetween 43 = .ok (.ifCond .eq 19, 3) := by decide +kernel
theorem dX5_troubleBetween_46 : decode cX5_troubleBetween 46 = .ok (.aload_n 0, 1) := by decide +kernel
theorem dX5_troubleBetween_47 : decode cX5_troubleBetween 47 = .ok (.iload_n 3, 1) := by decide +kernel
theorem dX5_troubleBetween_48 : decode cX5_troubleBetween 48 = .ok (.iload 4, 2) := by decide +kernel
theorem dX5_troubleBetween_50 : decode cX5_troubleBetween 50 = .ok (.iload 5, 2) := by decide +kernel
theorem dX5_troubleBetween_52 : decode cX5_troubleBetween 52 = .ok (.invokevirtual 38, 3) := by decide +kernel
theorem dX5_troubleBetween_55 : decode cX5_troubleBetween 55 = .ok (.ifCond .eq 7, 3) := by decide +kernel
theorem dX5_troubleBetween_58 : decode cX5_troubleBetween 58 = .ok (.iconst 0, 1) := by decide +kernel
theorem dX5_troubleBetween_59 : decode cX5_troubleBetween 59 = .ok (.goto 4, 3) := by decide +kernel
theorem dX5_troubleBetween_62 : decode cX5_troubleBetween 62 = .ok (.iconst 2, 1) := by decide +kernel
theorem dX5_troubleBetween_63 : decode cX5_troubleBetween 63 = .ok (.ireturn, 1) := by decide +kernel
theorem dX5_holds_0 : decode cX5_holds 0 = .ok (.iload_n 2, 1) := by decide +kernel
theorem dX5_holds_1 : decode cX5_holds 1 = .ok (.ifCond .lt 23, 3) := by decide +kernel
theorem dX5_holds_4 : decode cX5_holds 4 = .ok (.iload_n 3, 1) := by decide +kernel
theorem dX5_holds_5 : decode cX5_holds 5 = .ok (.ifCond .lt 19, 3) := by decide +kernel
theorem dX5_holds_8 : decode cX5_holds 8 = .ok (.iload_n 2, 1) := by decide +kernel
theorem dX5_holds_9 : decode cX5_holds 9 = .ok (.aload_n 0, 1) := by decide +kernel
theorem dX5_holds_10 : decode cX5_holds 10 = .ok (.getfield 15, 3) := by decide +kernel
theorem dX5_holds_13 : decode cX5_holds 13 = .ok (.iload_n 1, 1) := by decide +kernel
theorem dX5_holds_14 : decode cX5_holds 14 = .ok (.iaload, 1) := by decide +kernel
theorem dX5_holds_15 : decode cX5_holds 15 = .ok (.iload_n 3, 1) := by decide +kernel
theorem dX5_holds_16 : decode cX5_holds 16 = .ok (.isub, 1) := by decide +kernel
theorem dX5_holds_17 : decode cX5_holds 17 = .ok (.if_icmp .gt 7, 3) := by decide +kernel
theorem dX5_holds_20 : decode cX5_holds 20 = .ok (.iconst 1, 1) := by decide +kernel
theorem dX5_holds_21 : decode cX5_holds 21 = .ok (.goto 4, 3) := by decide +kernel
theorem dX5_holds_24 : decode cX5_holds 24 = .ok (.iconst 0, 1) := by decide +kernel
theorem dX5_holds_25 : decode cX5_holds 25 = .ok (.ireturn, 1) := by decide +kernel
theorem dX5_indexOf_0 : decode cX5_indexOf 0 = .ok (.iload_n 1, 1) := by decide +kernel
theorem dX5_indexOf_1 : decode cX5_indexOf 1 = .ok (.bipush 40, 2) := by decide +kernel
theorem dX5_indexOf_3 : decode cX5_indexOf 3 = .ok (.imul, 1) := by decide +kernel
theorem dX5_indexOf_4 : decode cX5_indexOf 4 = .ok (.iload_n 2, 1) := by decide +kernel
theorem dX5_indexOf_5 : decode cX5_indexOf 5 = .ok (.iadd, 1) := by decide +kernel
theorem dX5_indexOf_6 : decode cX5_indexOf 6 = .ok (.ireturn, 1) := by decide +kernel
set_option maxRecDepth 20000 in
theorem ggX5_itemAt_X7_isFrom : GoodIn wsX5_itemAt wsX7_isFrom := goodIn_r _ [4] (by decide +kernel) (by decide +kernel)
set_option maxRecDepth 20000 in
theorem gX5_itemAt_X7_isFrom_n27 : GoodIn wsX5_itemAt (wsX7_isFrom) := ggX5_itemAt_X7_isFrom
theorem dX5_itemAt_0 : decode cX5_itemAt 0 = .ok (.iconst 0, 1) := by decide +kernel
theorem dX5_itemAt_1 : decode cX5_itemAt 1 = .ok (.iload_n 1, 1) := by decide +kernel
theorem dX5_itemAt_2 : decode cX5_itemAt 2 = .ok (.sipush 319, 3) := by decide +kernel
theorem dX5_itemAt_5 : decode cX5_itemAt 5 = .ok (.invokestatic 27, 3) := by decide +kernel
theorem dX5_itemAt_8 : decode cX5_itemAt 8 = .ok (.ifCond .eq 12, 3) := by decide +kernel
theorem dX5_itemAt_11 : decode cX5_itemAt 11 = .ok (.aload_n 0, 1) := by decide +kernel
theorem dX5_itemAt_12 : decode cX5_itemAt 12 = .ok (.getfield 18, 3) := by decide +kernel
theorem dX5_itemAt_15 : decode cX5_itemAt 15 = .ok (.iload_n 1, 1) := by decide +kernel
theorem dX5_itemAt_16 : decode cX5_itemAt 16 = .ok (.iaload, 1) := by decide +kernel
theorem dX5_itemAt_17 : decode cX5_itemAt 17 = .ok (.goto 4, 3) := by decide +kernel
theorem dX5_itemAt_20 : decode cX5_itemAt 20 = .ok (.iconst 0, 1) := by decide +kernel
theorem dX5_itemAt_21 : decode cX5_itemAt 21 = .ok (.ireturn, 1) := by decide +kernel
set_option maxRecDepth 20000 in
theorem ggX5_put_X5_cutToLane : GoodIn wsX5_put wsX5_cutToLane := goodIn_r _ [6] (by decide +kernel) (by decide +kernel)
set_option maxRecDepth 20000 in
theorem gX5_put_X5_cutToLane : GoodIn wsX5_put (va_wsS RX5 41 yX5_cutToLane wsX5_cutToLane) := goodIn_app (goodIn_of _ (by decide +kernel)) ggX5_put_X5_cutToLane
set_option maxRecDepth 20000 in
theorem ggX5_put_X5_indexOf : GoodIn wsX5_put wsX5_indexOf := goodIn_r _ [10] (by decide +kernel) (by decide +kernel)
set_option maxRecDepth 20000 in
theorem gX5_put_X5_indexOf : GoodIn wsX5_put (wsV RX5 45 RX5 yX5_indexOf wsX5_indexOf) := goodIn_app (goodIn_of _ (by decide +kernel)) ggX5_put_X5_indexOf
theorem dX5_put_0 : decode cX5_put 0 = .ok (.aload_n 0, 1) := by decide +kernel
theorem dX5_put_1 : decode cX5_put 1 = .ok (.getfield 11, 3) := by decide +kernel
theorem dX5_put_4 : decode cX5_put 4 = .ok (.iload_n 1, 1) := by decide +kernel
theorem dX5_put_5 : decode cX5_put 5 = .ok (.iaload, 1) := by decide +kernel
theorem dX5_put_6 : decode cX5_put 6 = .ok (.iload_n 3, 1) := by decide +kernel
theorem dX5_put_7 : decode cX5_put 7 = .ok (.invokestatic 41, 3) := by decide +kernel
theorem dX5_put_10 : decode cX5_put 10 = .ok (.istore 4, 2) := by decide +kernel
theorem dX5_put_12 : decode cX5_put 12 = .ok (.aload_n 0, 1) := by decide +kernel
theorem dX5_put_13 : decode cX5_put 13 = .ok (.getfield 18, 3) := by decide +kernel
theorem dX5_put_16 : decode cX5_put 16 = .ok (.aload_n 0, 1) := by decide +kernel
theorem dX5_put_17 : decode cX5_put 17 = .ok (.iload_n 1, 1) := by decide +kernel
theorem dX5_put_18 : decode cX5_put 18 = .ok (.iload_n 2, 1) := by decide +kernel
theorem dX5_put_19 : decode cX5_put 19 = .ok (.invokevirtual 45, 3) := by decide +kernel
theorem dX5_put_22 : decode cX5_put 22 = .ok (.iload 4, 2) := by decide +kernel
theorem dX5_put_24 : decode cX5_put 24 = .ok (.iastore, 1) := by decide +kernel
theorem dX5_put_25 : decode cX5_put 25 = .ok (.iload 4, 2) := by decide +kernel
theorem dX5_put_27 : decode cX5_put 27 = .ok (.ireturn, 1) := by decide +kernel
theorem dX5_cutToLane_0 : decode cX5_cutToLane 0 = .ok (.iload_n 0, 1) := by decide +kernel
theorem dX5_cutToLane_1 : decode cX5_cutToLane 1 = .ok (.lookupswitch 33 #[(0, 27), (1, 30)], 27) := by decide +kernel
theorem dX5_cutToLane_28 : decode cX5_cutToLane 28 = .ok (.iload_n 1, 1) := by decide +kernel
theorem dX5_cutToLane_29 : decode cX5_cutToLane 29 = .ok (.i2b, 1) := by decide +kernel
theorem dX5_cutToLane_30 : decode cX5_cutToLane 30 = .ok (.ireturn, 1) := by decide +kernel
theorem dX5_cutToLane_31 : decode cX5_cutToLane 31 = .ok (.iload_n 1, 1) := by decide +kernel
theorem dX5_cutToLane_32 : decode cX5_cutToLane 32 = .ok (.i2s, 1) := by decide +kernel
theorem dX5_cutToLane_33 : decode cX5_cutToLane 33 = .ok (.ireturn, 1) := by decide +kernel
theorem dX5_cutToLane_34 : decode cX5_cutToLane 34 = .ok (.iload_n 1, 1) := by decide +kernel
theorem dX5_cutToLane_35 : decode cX5_cutToLane 35 = .ok (.ireturn, 1) := by decide +kernel
set_option maxRecDepth 20000 in
theorem ggX5_carry_X5_indexOf : GoodIn wsX5_carry wsX5_indexOf := goodIn_r _ [10] (by decide +kernel) (by decide +kernel)
set_option maxRecDepth 20000 in
theorem gX5_carry_X5_indexOf : GoodIn wsX5_carry (wsV RX5 45 RX5 yX5_indexOf wsX5_indexOf) := goodIn_app (goodIn_of _ (by decide +kernel)) ggX5_carry_X5_indexOf
theorem dX5_carry_0 : decode cX5_carry 0 = .ok (.aload_n 0, 1) := by decide +kernel
theorem dX5_carry_1 : decode cX5_carry 1 = .ok (.getfield 18, 3) := by decide +kernel
theorem dX5_carry_4 : decode cX5_carry 4 = .ok (.aload_n 0, 1) := by decide +kernel
theorem dX5_carry_5 : decode cX5_carry 5 = .ok (.iload_n 1, 1) := by decide +kernel
theorem dX5_carry_6 : decode cX5_carry 6 = .ok (.iload_n 2, 1) := by decide +kernel
theorem dX5_carry_7 : decode cX5_carry 7 = .ok (.invokevirtual 45, 3) := by decide +kernel
theorem dX5_carry_10 : decode cX5_carry 10 = .ok (.aload_n 0, 1) := by decide +kernel
theorem dX5_carry_11 : decode cX5_carry 11 = .ok (.getfield 18, 3) := by decide +kernel
theorem dX5_carry_14 : decode cX5_carry 14 = .ok (.aload_n 0, 1) := by decide +kernel
theorem dX5_carry_15 : decode cX5_carry 15 = .ok (.iload_n 3, 1) := by decide +kernel
theorem dX5_carry_16 : decode cX5_carry 16 = .ok (.iload 4, 2) := by decide +kernel
theorem dX5_carry_18 : decode cX5_carry 18 = .ok (.invokevirtual 45, 3) := by decide +kernel
theorem dX5_carry_21 : decode cX5_carry 21 = .ok (.iload 5, 2) := by decide +kernel
theorem dX5_carry_23 : decode cX5_carry 23 = .ok (.invokestatic 48, 3) := by decide +kernel
theorem dX5_carry_26 : decode cX5_carry 26 = .ok (.return_, 1) := by decide +kernel
theorem dX7_isFrom_0 : decode cX7_isFrom 0 = .ok (.iload_n 0, 1) := by decide +kernel
theorem dX7_isFrom_1 : decode cX7_isFrom 1 = .ok (.iload_n 1, 1) := by decide +kernel
theorem dX7_isFrom_2 : decode cX7_isFrom 2 = .ok (.if_icmp .gt 12, 3) := by decide +kernel
theorem dX7_isFrom_5 : decode cX7_isFrom 5 = .ok (.iload_n 1, 1) := by decide +kernel
theorem dX7_isFrom_6 : decode cX7_isFrom 6 = .ok (.iload_n 2, 1) := by decide +kernel
theorem dX7_isFrom_7 : decode cX7_isFrom 7 = .ok (.if_icmp .gt 7, 3) := by decide +kernel
theorem dX7_isFrom_10 : decode cX7_isFrom 10 = .ok (.iconst 1, 1) := by decide +kernel
theorem dX7_isFrom_11 : decode cX7_isFrom 11 = .ok (.goto 4, 3) := by decide +kernel
theorem dX7_isFrom_14 : decode cX7_isFrom 14 = .ok (.iconst 0, 1) := by decide +kernel
theorem dX7_isFrom_15 : decode cX7_isFrom 15 = .ok (.ireturn, 1) := by decide +kernel
theorem dJ7_fill_53178_0 : decode cJ7_fill_53178 0 = .ok (.iconst 0, 1) := by decide +kernel
theorem dJ7_fill_53178_1 : decode cJ7_fill_53178 1 = .ok (.istore_n 2, 1) := by decide +kernel
theorem dJ7_fill_53178_2 : decode cJ7_fill_53178 2 = .ok (.aload_n 0, 1) := by decide +kernel
theorem dJ7_fill_53178_3 : decode cJ7_fill_53178 3 = .ok (.arraylength, 1) := by decide +kernel
theorem dJ7_fill_53178_4 : decode cJ7_fill_53178 4 = .ok (.istore_n 3, 1) := by decide +kernel
theorem dJ7_fill_53178_5 : decode cJ7_fill_53178 5 = .ok (.iload_n 2, 1) := by decide +kernel
theorem dJ7_fill_53178_6 : decode cJ7_fill_53178 6 = .ok (.iload_n 3, 1) := by decide +kernel
theorem dJ7_fill_53178_7 : decode cJ7_fill_53178 7 = .ok (.if_icmp .ge 13, 3) := by decide +kernel
theorem dJ7_fill_53178_10 : decode cJ7_fill_53178 10 = .ok (.aload_n 0, 1) := by decide +kernel
theorem dJ7_fill_53178_11 : decode cJ7_fill_53178 11 = .ok (.iload_n 2, 1) := by decide +kernel
theorem dJ7_fill_53178_12 : decode cJ7_fill_53178 12 = .ok (.iload_n 1, 1) := by decide +kernel
theorem dJ7_fill_53178_13 : decode cJ7_fill_53178 13 = .ok (.iastore, 1) := by decide +kernel
theorem dJ7_fill_53178_14 : decode cJ7_fill_53178 14 = .ok (.iinc 2 1, 3) := by decide +kernel
theorem dJ7_fill_53178_17 : decode cJ7_fill_53178 17 = .ok (.goto (-12), 3) := by decide +kernel
theorem dJ7_fill_53178_20 : decode cJ7_fill_53178 20 = .ok (.return_, 1) := by decide +kernel
