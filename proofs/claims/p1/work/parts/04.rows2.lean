theorem dX8_init_91 : decode cX8_init 91 = .ok (.return_, 1) := by decide +kernel
theorem dX8_in_0 : decode cX8_in 0 = .ok (.lload_n 0, 1) := by decide +kernel
theorem dX8_in_1 : decode cX8_in 1 = .ok (.lload_n 2, 1) := by decide +kernel
theorem dX8_in_2 : decode cX8_in 2 = .ok (.lcmp, 1) := by decide +kernel
theorem dX8_in_3 : decode cX8_in 3 = .ok (.ifCond .lt 14, 3) := by decide +kernel
theorem dX8_in_6 : decode cX8_in 6 = .ok (.lload_n 0, 1) := by decide +kernel
theorem dX8_in_7 : decode cX8_in 7 = .ok (.lload 4, 2) := by decide +kernel
theorem dX8_in_9 : decode cX8_in 9 = .ok (.lcmp, 1) := by decide +kernel
theorem dX8_in_10 : decode cX8_in 10 = .ok (.ifCond .gt 7, 3) := by decide +kernel
theorem dX8_in_13 : decode cX8_in 13 = .ok (.iconst 1, 1) := by decide +kernel
theorem dX8_in_14 : decode cX8_in 14 = .ok (.goto 4, 3) := by decide +kernel
theorem dX8_in_17 : decode cX8_in 17 = .ok (.iconst 0, 1) := by decide +kernel
theorem dX8_in_18 : decode cX8_in 18 = .ok (.ireturn, 1) := by decide +kernel
theorem dX8_finds_0 : decode cX8_finds 0 = .ok (.aload_n 0, 1) := by decide +kernel
theorem dX8_finds_1 : decode cX8_finds 1 = .ok (.iload_n 1, 1) := by decide +kernel
theorem dX8_finds_2 : decode cX8_finds 2 = .ok (.putfield 35, 3) := by decide +kernel
theorem dX8_finds_5 : decode cX8_finds 5 = .ok (.ldc 39, 2) := by decide +kernel
theorem dX8_finds_7 : decode cX8_finds 7 = .ok (.iload_n 1, 1) := by decide +kernel
theorem dX8_finds_8 : decode cX8_finds 8 = .ok (.isub, 1) := by decide +kernel
theorem dX8_finds_9 : decode cX8_finds 9 = .ok (.ireturn, 1) := by decide +kernel
theorem dX8_told_0 : decode cX8_told 0 = .ok (.aload_n 0, 1) := by decide +kernel
theorem dX8_told_1 : decode cX8_told 1 = .ok (.iconst 0, 1) := by decide +kernel
theorem dX8_told_2 : decode cX8_told 2 = .ok (.putfield 35, 3) := by decide +kernel
theorem dX8_told_5 : decode cX8_told 5 = .ok (.iload_n 1, 1) := by decide +kernel
theorem dX8_told_6 : decode cX8_told 6 = .ok (.ireturn, 1) := by decide +kernel
set_option maxRecDepth 20000 in
theorem ggX8_row_X8_in : GoodIn wsX8_row wsX8_in := goodIn_r _ [10] (by decide +kernel) (by decide +kernel)
set_option maxRecDepth 20000 in
theorem gX8_row_X8_in : GoodIn wsX8_row (va_wsS RX8 42 yX8_in wsX8_in) := goodIn_app (goodIn_of _ (by decide +kernel)) ggX8_row_X8_in
set_option maxRecDepth 20000 in
theorem ggX8_row_X8_finds : GoodIn wsX8_row wsX8_finds := goodIn_r _ [14, 15, 16, 21, 22, 23, 24, 25, 26, 27, 28, 29, 30, 31, 32, 33, 34, 35, 36] (by decide +kernel) (by decide +kernel)
set_option maxRecDepth 20000 in
theorem gX8_row_X8_finds : GoodIn wsX8_row (wsV RX8 49 RX8 yX8_finds wsX8_finds) := goodIn_app (goodIn_of _ (by decide +kernel)) ggX8_row_X8_finds
set_option maxRecDepth 20000 in
theorem ggX8_row_X8_told : GoodIn wsX8_row wsX8_told := goodIn_r _ [20, 15, 21, 22, 23, 24, 25, 26, 27, 28, 29, 30, 31, 32, 33, 34, 35, 36] (by decide +kernel) (by decide +kernel)
set_option maxRecDepth 20000 in
theorem gX8_row_X8_told : GoodIn wsX8_row (wsV RX8 53 RX8 yX8_told wsX8_told) := goodIn_app (goodIn_of _ (by decide +kernel)) ggX8_row_X8_told
theorem dX8_row_0 : decode cX8_row 0 = .ok (.iload_n 1, 1) := by decide +kernel
theorem dX8_row_1 : decode cX8_row 1 = .ok (.i2l, 1) := by decide +kernel
theorem dX8_row_2 : decode cX8_row 2 = .ok (.lconst 0, 1) := by decide +kernel
theorem dX8_row_3 : decode cX8_row 3 = .ok (.ldc2_w 40, 3) := by decide +kernel
theorem dX8_row_6 : decode cX8_row 6 = .ok (.invokestatic 42, 3) := by decide +kernel
theorem dX8_row_9 : decode cX8_row 9 = .ok (.ifCond .eq 21, 3) := by decide +kernel
theorem dX8_row_12 : decode cX8_row 12 = .ok (.iload_n 2, 1) := by decide +kernel
theorem dX8_row_13 : decode cX8_row 13 = .ok (.i2l, 1) := by decide +kernel
theorem dX8_row_14 : decode cX8_row 14 = .ok (.lconst 0, 1) := by decide +kernel
theorem dX8_row_15 : decode cX8_row 15 = .ok (.ldc2_w 46, 3) := by decide +kernel
theorem dX8_row_18 : decode cX8_row 18 = .ok (.invokestatic 42, 3) := by decide +kernel
theorem dX8_row_21 : decode cX8_row 21 = .ok (.ifCond .eq 9, 3) := by decide +kernel
theorem dX8_row_24 : decode cX8_row 24 = .ok (.iload_n 3, 1) := by decide +kernel
theorem dX8_row_25 : decode cX8_row 25 = .ok (.bipush 40, 2) := by decide +kernel
theorem dX8_row_27 : decode cX8_row 27 = .ok (.if_icmp .le 6, 3) := by decide +kernel
theorem dX8_row_30 : decode cX8_row 30 = .ok (.ldc 48, 2) := by decide +kernel
theorem dX8_row_32 : decode cX8_row 32 = .ok (.ireturn, 1) := by decide +kernel
theorem dX8_row_33 : decode cX8_row 33 = .ok (.iload_n 3, 1) := by decide +kernel
theorem dX8_row_34 : decode cX8_row 34 = .ok (.ifCond .ge 9, 3) := by decide +kernel
theorem dX8_row_37 : decode cX8_row 37 = .ok (.aload_n 0, 1) := by decide +kernel
theorem dX8_row_38 : decode cX8_row 38 = .ok (.iconst 4, 1) := by decide +kernel
theorem dX8_row_39 : decode cX8_row 39 = .ok (.invokevirtual 49, 3) := by decide +kernel
theorem dX8_row_42 : decode cX8_row 42 = .ok (.ireturn, 1) := by decide +kernel
theorem dX8_row_43 : decode cX8_row 43 = .ok (.aload_n 0, 1) := by decide +kernel
theorem dX8_row_44 : decode cX8_row 44 = .ok (.getfield 13, 3) := by decide +kernel
theorem dX8_row_47 : decode cX8_row 47 = .ok (.iload_n 1, 1) := by decide +kernel
theorem dX8_row_48 : decode cX8_row 48 = .ok (.iload_n 3, 1) := by decide +kernel
theorem dX8_row_49 : decode cX8_row 49 = .ok (.iastore, 1) := by decide +kernel
theorem dX8_row_50 : decode cX8_row 50 = .ok (.aload_n 0, 1) := by decide +kernel
theorem dX8_row_51 : decode cX8_row 51 = .ok (.getfield 16, 3) := by decide +kernel
theorem dX8_row_54 : decode cX8_row 54 = .ok (.iload_n 1, 1) := by decide +kernel
theorem dX8_row_55 : decode cX8_row 55 = .ok (.iload_n 2, 1) := by decide +kernel
theorem dX8_row_56 : decode cX8_row 56 = .ok (.iastore, 1) := by decide +kernel
theorem dX8_row_57 : decode cX8_row 57 = .ok (.iconst 0, 1) := by decide +kernel
theorem dX8_row_58 : decode cX8_row 58 = .ok (.istore 4, 2) := by decide +kernel
theorem dX8_row_60 : decode cX8_row 60 = .ok (.iload 4, 2) := by decide +kernel
theorem dX8_row_62 : decode cX8_row 62 = .ok (.iload_n 3, 1) := by decide +kernel
theorem dX8_row_63 : decode cX8_row 63 = .ok (.if_icmp .ge 22, 3) := by decide +kernel
theorem dX8_row_66 : decode cX8_row 66 = .ok (.aload_n 0, 1) := by decide +kernel
theorem dX8_row_67 : decode cX8_row 67 = .ok (.getfield 19, 3) := by decide +kernel
theorem dX8_row_70 : decode cX8_row 70 = .ok (.bipush 40, 2) := by decide +kernel
theorem dX8_row_72 : decode cX8_row 72 = .ok (.iload_n 1, 1) := by decide +kernel
theorem dX8_row_73 : decode cX8_row 73 = .ok (.imul, 1) := by decide +kernel
theorem dX8_row_74 : decode cX8_row 74 = .ok (.iload 4, 2) := by decide +kernel
theorem dX8_row_76 : decode cX8_row 76 = .ok (.iadd, 1) := by decide +kernel
theorem dX8_row_77 : decode cX8_row 77 = .ok (.iconst 0, 1) := by decide +kernel
theorem dX8_row_78 : decode cX8_row 78 = .ok (.iastore, 1) := by decide +kernel
theorem dX8_row_79 : decode cX8_row 79 = .ok (.iinc 4 1, 3) := by decide +kernel
theorem dX8_row_82 : decode cX8_row 82 = .ok (.goto (-22), 3) := by decide +kernel
theorem dX8_row_85 : decode cX8_row 85 = .ok (.aload_n 0, 1) := by decide +kernel
theorem dX8_row_86 : decode cX8_row 86 = .ok (.iload_n 3, 1) := by decide +kernel
theorem dX8_row_87 : decode cX8_row 87 = .ok (.invokevirtual 53, 3) := by decide +kernel
theorem dX8_row_90 : decode cX8_row 90 = .ok (.ireturn, 1) := by decide +kernel
set_option maxRecDepth 20000 in
theorem ggX8_set_X8_in : GoodIn wsX8_set wsX8_in := goodIn_r _ [9] (by decide +kernel) (by decide +kernel)
set_option maxRecDepth 20000 in
theorem gX8_set_X8_in : GoodIn wsX8_set (va_wsS RX8 42 yX8_in wsX8_in) := goodIn_app (goodIn_of _ (by decide +kernel)) ggX8_set_X8_in
set_option maxRecDepth 20000 in
theorem ggX8_set_X8_finds : GoodIn wsX8_set wsX8_finds := goodIn_r _ [13, 14, 15, 20, 21, 22, 23, 24, 25, 26, 27, 28, 29, 30, 31, 32, 33, 34, 35] (by decide +kernel) (by decide +kernel)
set_option maxRecDepth 20000 in
theorem gX8_set_X8_finds : GoodIn wsX8_set (wsV RX8 49 RX8 yX8_finds wsX8_finds) := goodIn_app (goodIn_of _ (by decide +kernel)) ggX8_set_X8_finds
set_option maxRecDepth 20000 in
theorem ggX8_set_X8_told : GoodIn wsX8_set wsX8_told := goodIn_r _ [19, 14, 20, 21, 22, 23, 24, 25, 26, 27, 28, 29, 30, 31, 32, 33, 34, 35] (by decide +kernel) (by decide +kernel)
set_option maxRecDepth 20000 in
theorem gX8_set_X8_told : GoodIn wsX8_set (wsV RX8 53 RX8 yX8_told wsX8_told) := goodIn_app (goodIn_of _ (by decide +kernel)) ggX8_set_X8_told
theorem dX8_set_0 : decode cX8_set 0 = .ok (.iload_n 1, 1) := by decide +kernel
theorem dX8_set_1 : decode cX8_set 1 = .ok (.i2l, 1) := by decide +kernel
theorem dX8_set_2 : decode cX8_set 2 = .ok (.lconst 0, 1) := by decide +kernel
theorem dX8_set_3 : decode cX8_set 3 = .ok (.ldc2_w 40, 3) := by decide +kernel
theorem dX8_set_6 : decode cX8_set 6 = .ok (.invokestatic 42, 3) := by decide +kernel
theorem dX8_set_9 : decode cX8_set 9 = .ok (.ifCond .ne 6, 3) := by decide +kernel
theorem dX8_set_12 : decode cX8_set 12 = .ok (.ldc 48, 2) := by decide +kernel
theorem dX8_set_14 : decode cX8_set 14 = .ok (.ireturn, 1) := by decide +kernel
theorem dX8_set_15 : decode cX8_set 15 = .ok (.aload_n 0, 1) := by decide +kernel
theorem dX8_set_16 : decode cX8_set 16 = .ok (.getfield 13, 3) := by decide +kernel
theorem dX8_set_19 : decode cX8_set 19 = .ok (.iload_n 1, 1) := by decide +kernel
theorem dX8_set_20 : decode cX8_set 20 = .ok (.iaload, 1) := by decide +kernel
theorem dX8_set_21 : decode cX8_set 21 = .ok (.ifCond .ge 9, 3) := by decide +kernel
theorem dX8_set_24 : decode cX8_set 24 = .ok (.aload_n 0, 1) := by decide +kernel
theorem dX8_set_25 : decode cX8_set 25 = .ok (.iconst 1, 1) := by decide +kernel
theorem dX8_set_26 : decode cX8_set 26 = .ok (.invokevirtual 49, 3) := by decide +kernel
theorem dX8_set_29 : decode cX8_set 29 = .ok (.ireturn, 1) := by decide +kernel
set_option maxRecDepth 20000 in
theorem ggX8_copy_X8_in : GoodIn wsX8_copy wsX8_in := goodIn_r _ [10] (by decide +kernel) (by decide +kernel)
set_option maxRecDepth 20000 in
theorem gX8_copy_X8_in : GoodIn wsX8_copy (va_wsS RX8 42 yX8_in wsX8_in) := goodIn_app (goodIn_of _ (by decide +kernel)) ggX8_copy_X8_in
set_option maxRecDepth 20000 in
theorem ggX8_copy_X8_finds : GoodIn wsX8_copy wsX8_finds := goodIn_r _ [14, 15, 16, 21, 22, 23, 24, 25, 26, 27, 28, 29, 30, 31, 32, 33, 34, 35, 36] (by decide +kernel) (by decide +kernel)
set_option maxRecDepth 20000 in
theorem gX8_copy_X8_finds : GoodIn wsX8_copy (wsV RX8 49 RX8 yX8_finds wsX8_finds) := goodIn_app (goodIn_of _ (by decide +kernel)) ggX8_copy_X8_finds
set_option maxRecDepth 20000 in
theorem ggX8_copy_X8_told : GoodIn wsX8_copy wsX8_told := goodIn_r _ [20, 15, 21, 22, 23, 24, 25, 26, 27, 28, 29, 30, 31, 32, 33, 34, 35, 36] (by decide +kernel) (by decide +kernel)
set_option maxRecDepth 20000 in
theorem gX8_copy_X8_told : GoodIn wsX8_copy (wsV RX8 53 RX8 yX8_told wsX8_told) := goodIn_app (goodIn_of _ (by decide +kernel)) ggX8_copy_X8_told
theorem dX8_copy_0 : decode cX8_copy 0 = .ok (.iload_n 1, 1) := by decide +kernel
theorem dX8_copy_1 : decode cX8_copy 1 = .ok (.i2l, 1) := by decide +kernel
theorem dX8_copy_2 : decode cX8_copy 2 = .ok (.lconst 0, 1) := by decide +kernel
theorem dX8_copy_3 : decode cX8_copy 3 = .ok (.ldc2_w 40, 3) := by decide +kernel
theorem dX8_copy_6 : decode cX8_copy 6 = .ok (.invokestatic 42, 3) := by decide +kernel
theorem dX8_copy_9 : decode cX8_copy 9 = .ok (.ifCond .eq 15, 3) := by decide +kernel
theorem dX8_copy_12 : decode cX8_copy 12 = .ok (.iload_n 3, 1) := by decide +kernel
theorem dX8_copy_13 : decode cX8_copy 13 = .ok (.i2l, 1) := by decide +kernel
theorem dX8_copy_14 : decode cX8_copy 14 = .ok (.lconst 0, 1) := by decide +kernel
theorem dX8_copy_15 : decode cX8_copy 15 = .ok (.ldc2_w 40, 3) := by decide +kernel
theorem dX8_copy_18 : decode cX8_copy 18 = .ok (.invokestatic 42, 3) := by decide +kernel
theorem dX8_copy_21 : decode cX8_copy 21 = .ok (.ifCond .ne 6, 3) := by decide +kernel
theorem dX8_copy_24 : decode cX8_copy 24 = .ok (.ldc 48, 2) := by decide +kernel
theorem dX8_copy_26 : decode cX8_copy 26 = .ok (.ireturn, 1) := by decide +kernel
theorem dX8_copy_27 : decode cX8_copy 27 = .ok (.aload_n 0, 1) := by decide +kernel
theorem dX8_copy_28 : decode cX8_copy 28 = .ok (.getfield 13, 3) := by decide +kernel
theorem dX8_copy_31 : decode cX8_copy 31 = .ok (.iload_n 1, 1) := by decide +kernel
theorem dX8_copy_32 : decode cX8_copy 32 = .ok (.iaload, 1) := by decide +kernel
theorem dX8_copy_33 : decode cX8_copy 33 = .ok (.ifCond .lt 12, 3) := by decide +kernel
theorem dX8_copy_45 : decode cX8_copy 45 = .ok (.aload_n 0, 1) := by decide +kernel
theorem dX8_copy_46 : decode cX8_copy 46 = .ok (.iconst 1, 1) := by decide +kernel
theorem dX8_copy_47 : decode cX8_copy 47 = .ok (.invokevirtual 49, 3) := by decide +kernel
theorem dX8_copy_50 : decode cX8_copy 50 = .ok (.ireturn, 1) := by decide +kernel
set_option maxRecDepth 20000 in
theorem ggX8_drop_X8_in : GoodIn wsX8_drop wsX8_in := goodIn_r _ [7] (by decide +kernel) (by decide +kernel)
set_option maxRecDepth 20000 in
theorem gX8_drop_X8_in : GoodIn wsX8_drop (va_wsS RX8 42 yX8_in wsX8_in) := goodIn_app (goodIn_of _ (by decide +kernel)) ggX8_drop_X8_in
set_option maxRecDepth 20000 in
theorem ggX8_drop_X8_finds : GoodIn wsX8_drop wsX8_finds := goodIn_r _ [11, 12, 13, 18, 19, 20, 21, 22, 23, 24, 25, 26, 27, 28, 29, 30, 31, 32, 33] (by decide +kernel) (by decide +kernel)
set_option maxRecDepth 20000 in
theorem gX8_drop_X8_finds : GoodIn wsX8_drop (wsV RX8 49 RX8 yX8_finds wsX8_finds) := goodIn_app (goodIn_of _ (by decide +kernel)) ggX8_drop_X8_finds
set_option maxRecDepth 20000 in
theorem ggX8_drop_X8_told : GoodIn wsX8_drop wsX8_told := goodIn_r _ [17, 12, 18, 19, 20, 21, 22, 23, 24, 25, 26, 27, 28, 29, 30, 31, 32, 33] (by decide +kernel) (by decide +kernel)
set_option maxRecDepth 20000 in
theorem gX8_drop_X8_told : GoodIn wsX8_drop (wsV RX8 53 RX8 yX8_told wsX8_told) := goodIn_app (goodIn_of _ (by decide +kernel)) ggX8_drop_X8_told
theorem dX8_drop_0 : decode cX8_drop 0 = .ok (.iload_n 1, 1) := by decide +kernel
theorem dX8_drop_1 : decode cX8_drop 1 = .ok (.i2l, 1) := by decide +kernel
theorem dX8_drop_2 : decode cX8_drop 2 = .ok (.lconst 0, 1) := by decide +kernel
theorem dX8_drop_3 : decode cX8_drop 3 = .ok (.ldc2_w 40, 3) := by decide +kernel
theorem dX8_drop_6 : decode cX8_drop 6 = .ok (.invokestatic 42, 3) := by decide +kernel
theorem dX8_drop_9 : decode cX8_drop 9 = .ok (.ifCond .ne 6, 3) := by decide +kernel
theorem dX8_drop_12 : decode cX8_drop 12 = .ok (.ldc 48, 2) := by decide +kernel
theorem dX8_drop_14 : decode cX8_drop 14 = .ok (.ireturn, 1) := by decide +kernel
theorem dX8_drop_15 : decode cX8_drop 15 = .ok (.aload_n 0, 1) := by decide +kernel
theorem dX8_drop_16 : decode cX8_drop 16 = .ok (.getfield 13, 3) := by decide +kernel
theorem dX8_drop_19 : decode cX8_drop 19 = .ok (.iload_n 1, 1) := by decide +kernel
theorem dX8_drop_20 : decode cX8_drop 20 = .ok (.iaload, 1) := by decide +kernel
theorem dX8_drop_21 : decode cX8_drop 21 = .ok (.ifCond .ge 9, 3) := by decide +kernel
theorem dX8_drop_24 : decode cX8_drop 24 = .ok (.aload_n 0, 1) := by decide +kernel
theorem dX8_drop_25 : decode cX8_drop 25 = .ok (.iconst 1, 1) := by decide +kernel
theorem dX8_drop_26 : decode cX8_drop 26 = .ok (.invokevirtual 49, 3) := by decide +kernel
theorem dX8_drop_29 : decode cX8_drop 29 = .ok (.ireturn, 1) := by decide +kernel
set_option maxRecDepth 20000 in
theorem ggX8_feed_X8_in : GoodIn wsX8_feed wsX8_in := goodIn_r _ [9] (by decide +kernel) (by decide +kernel)
set_option maxRecDepth 20000 in
theorem gX8_feed_X8_in : GoodIn wsX8_feed (va_wsS RX8 42 yX8_in wsX8_in) := goodIn_app (goodIn_of _ (by decide +kernel)) ggX8_feed_X8_in
theorem dX8_feed_0 : decode cX8_feed 0 = .ok (.iload_n 1, 1) := by decide +kernel
theorem dX8_feed_1 : decode cX8_feed 1 = .ok (.i2l, 1) := by decide +kernel
theorem dX8_feed_2 : decode cX8_feed 2 = .ok (.lconst 0, 1) := by decide +kernel
theorem dX8_feed_3 : decode cX8_feed 3 = .ok (.ldc2_w 56, 3) := by decide +kernel
theorem dX8_feed_6 : decode cX8_feed 6 = .ok (.invokestatic 42, 3) := by decide +kernel
theorem dX8_feed_9 : decode cX8_feed 9 = .ok (.ifCond .ne 6, 3) := by decide +kernel
theorem dX8_feed_12 : decode cX8_feed 12 = .ok (.ldc 48, 2) := by decide +kernel
theorem dX8_feed_14 : decode cX8_feed 14 = .ok (.ireturn, 1) := by decide +kernel
theorem dX8_feed_15 : decode cX8_feed 15 = .ok (.aload_n 0, 1) := by decide +kernel
theorem dX8_feed_16 : decode cX8_feed 16 = .ok (.getfield 58, 3) := by decide +kernel
theorem dX8_feed_19 : decode cX8_feed 19 = .ok (.bipush 120, 2) := by decide +kernel
theorem dX8_feed_21 : decode cX8_feed 21 = .ok (.if_icmp .ne 6, 3) := by decide +kernel
theorem dX8_feed_27 : decode cX8_feed 27 = .ok (.aload_n 0, 1) := by decide +kernel
theorem dX8_feed_28 : decode cX8_feed 28 = .ok (.getfield 25, 3) := by decide +kernel
theorem dX8_feed_31 : decode cX8_feed 31 = .ok (.aload_n 0, 1) := by decide +kernel
theorem dX8_feed_32 : decode cX8_feed 32 = .ok (.getfield 58, 3) := by decide +kernel
theorem dX8_feed_35 : decode cX8_feed 35 = .ok (.iload_n 1, 1) := by decide +kernel
theorem dX8_feed_36 : decode cX8_feed 36 = .ok (.i2b, 1) := by decide +kernel
theorem dX8_feed_37 : decode cX8_feed 37 = .ok (.bastore, 1) := by decide +kernel
theorem dX8_feed_38 : decode cX8_feed 38 = .ok (.aload_n 0, 1) := by decide +kernel
theorem dX8_feed_39 : decode cX8_feed 39 = .ok (.dup, 1) := by decide +kernel
theorem dX8_feed_40 : decode cX8_feed 40 = .ok (.getfield 58, 3) := by decide +kernel
theorem dX8_feed_43 : decode cX8_feed 43 = .ok (.iconst 1, 1) := by decide +kernel
theorem dX8_feed_44 : decode cX8_feed 44 = .ok (.iadd, 1) := by decide +kernel
theorem dX8_feed_45 : decode cX8_feed 45 = .ok (.putfield 58, 3) := by decide +kernel
theorem dX8_feed_48 : decode cX8_feed 48 = .ok (.aload_n 0, 1) := by decide +kernel
theorem dX8_feed_49 : decode cX8_feed 49 = .ok (.getfield 58, 3) := by decide +kernel
theorem dX8_feed_52 : decode cX8_feed 52 = .ok (.ireturn, 1) := by decide +kernel
theorem dX8_next_0 : decode cX8_next 0 = .ok (.aload_n 0, 1) := by decide +kernel
theorem dX8_next_1 : decode cX8_next 1 = .ok (.getfield 62, 3) := by decide +kernel
theorem dX8_next_4 : decode cX8_next 4 = .ok (.aload_n 0, 1) := by decide +kernel
theorem dX8_next_5 : decode cX8_next 5 = .ok (.getfield 58, 3) := by decide +kernel
theorem dX8_next_8 : decode cX8_next 8 = .ok (.if_icmp .ge 15, 3) := by decide +kernel
theorem dX8_next_23 : decode cX8_next 23 = .ok (.iconst (-1), 1) := by decide +kernel
theorem dX8_next_24 : decode cX8_next 24 = .ok (.ireturn, 1) := by decide +kernel
theorem dX8_fails_0 : decode cX8_fails 0 = .ok (.aload_n 0, 1) := by decide +kernel
theorem dX8_fails_1 : decode cX8_fails 1 = .ok (.iload_n 1, 1) := by decide +kernel
theorem dX8_fails_2 : decode cX8_fails 2 = .ok (.putfield 65, 3) := by decide +kernel
theorem dX8_fails_5 : decode cX8_fails 5 = .ok (.aload_n 0, 1) := by decide +kernel
theorem dX8_fails_6 : decode cX8_fails 6 = .ok (.iload_n 2, 1) := by decide +kernel
theorem dX8_fails_7 : decode cX8_fails 7 = .ok (.putfield 68, 3) := by decide +kernel
theorem dX8_fails_10 : decode cX8_fails 10 = .ok (.iconst 0, 1) := by decide +kernel
theorem dX8_fails_11 : decode cX8_fails 11 = .ok (.ireturn, 1) := by decide +kernel
set_option maxRecDepth 20000 in
theorem ggX8_isSign_X8_next : GoodIn wsX8_isSign wsX8_next := goodIn_r _ [6, 1, 7, 8, 15, 16, 17, 18, 19, 20, 21, 22, 23, 24, 25, 26, 27, 28, 29, 30] (by decide +kernel) (by decide +kernel)
set_option maxRecDepth 20000 in
theorem gX8_isSign_X8_next : GoodIn wsX8_isSign (wsV RX8 71 RX8 yX8_next wsX8_next) := goodIn_app (goodIn_of _ (by decide +kernel)) ggX8_isSign_X8_next
set_option maxRecDepth 20000 in
theorem ggX8_isSign_X8_fails : GoodIn wsX8_isSign wsX8_fails := goodIn_r _ [12, 13, 14, 15, 16, 17, 18, 19, 20, 21, 22, 23, 24, 25, 26, 27, 28, 29, 30] (by decide +kernel) (by decide +kernel)
set_option maxRecDepth 20000 in
theorem gX8_isSign_X8_fails : GoodIn wsX8_isSign (wsV RX8 75 RX8 yX8_fails wsX8_fails) := goodIn_app (goodIn_of _ (by decide +kernel)) ggX8_isSign_X8_fails
theorem dX8_isSign_0 : decode cX8_isSign 0 = .ok (.aload_n 0, 1) := by decide +kernel
theorem dX8_isSign_1 : decode cX8_isSign 1 = .ok (.invokevirtual 71, 3) := by decide +kernel
theorem dX8_isSign_4 : decode cX8_isSign 4 = .ok (.iload_n 1, 1) := by decide +kernel
theorem dX8_isSign_5 : decode cX8_isSign 5 = .ok (.if_icmp .eq 13, 3) := by decide +kernel
theorem dX8_isSign_8 : decode cX8_isSign 8 = .ok (.aload_n 0, 1) := by decide +kernel
theorem dX8_isSign_9 : decode cX8_isSign 9 = .ok (.iconst 1, 1) := by decide +kernel
theorem dX8_isSign_10 : decode cX8_isSign 10 = .ok (.aload_n 0, 1) := by decide +kernel
theorem dX8_isSign_11 : decode cX8_isSign 11 = .ok (.getfield 62, 3) := by decide +kernel
theorem dX8_isSign_14 : decode cX8_isSign 14 = .ok (.invokevirtual 75, 3) := by decide +kernel
theorem dX8_isSign_17 : decode cX8_isSign 17 = .ok (.ireturn, 1) := by decide +kernel
set_option maxRecDepth 20000 in
theorem ggX8_isLand_X8_isSign : GoodIn wsX8_isLand wsX8_isSign := goodIn_r _ [9, 1, 10, 11, 12, 8, 13, 4, 14, 15, 16, 17, 18, 19, 20, 50, 51, 52, 53, 54, 55, 56, 57, 58, 59, 60, 61, 62, 63, 64, 65] (by decide +kernel) (by decide +kernel)
set_option maxRecDepth 20000 in
theorem gX8_isLand_X8_isSign : GoodIn wsX8_isLand (wsV RX8 89 RX8 yX8_isSign wsX8_isSign) := goodIn_app (goodIn_of _ (by decide +kernel)) ggX8_isLand_X8_isSign
set_option maxRecDepth 20000 in
theorem ggX8_isLand_X8_next : GoodIn wsX8_isLand wsX8_next := goodIn_r _ [13, 1, 4, 14, 50, 51, 52, 53, 54, 55, 56, 57, 58, 59, 60, 61, 62, 63, 64, 65] (by decide +kernel) (by decide +kernel)
set_option maxRecDepth 20000 in
theorem gX8_isLand_X8_next : GoodIn wsX8_isLand (wsV RX8 71 RX8 yX8_next wsX8_next) := goodIn_app (goodIn_of _ (by decide +kernel)) ggX8_isLand_X8_next
set_option maxRecDepth 20000 in
theorem ggX8_isLand_X8_fails : GoodIn wsX8_isLand wsX8_fails := goodIn_r _ [18, 19, 20, 50, 51, 52, 53, 54, 55, 56, 57, 58, 59, 60, 61, 62, 63, 64, 65] (by decide +kernel) (by decide +kernel)
set_option maxRecDepth 20000 in
theorem gX8_isLand_X8_fails : GoodIn wsX8_isLand (wsV RX8 75 RX8 yX8_fails wsX8_fails) := goodIn_app (goodIn_of _ (by decide +kernel)) ggX8_isLand_X8_fails
theorem dX8_isLand_0 : decode cX8_isLand 0 = .ok (.aload_n 0, 1) := by decide +kernel
theorem dX8_isLand_1 : decode cX8_isLand 1 = .ok (.iconst 0, 1) := by decide +kernel
theorem dX8_isLand_2 : decode cX8_isLand 2 = .ok (.putfield 62, 3) := by decide +kernel
theorem dX8_isLand_5 : decode cX8_isLand 5 = .ok (.iconst 0, 1) := by decide +kernel
theorem dX8_isLand_6 : decode cX8_isLand 6 = .ok (.istore_n 1, 1) := by decide +kernel
theorem dX8_isLand_7 : decode cX8_isLand 7 = .ok (.iload_n 1, 1) := by decide +kernel
theorem dX8_isLand_8 : decode cX8_isLand 8 = .ok (.bipush 57, 2) := by decide +kernel
theorem dX8_isLand_10 : decode cX8_isLand 10 = .ok (.if_icmp .ge 20, 3) := by decide +kernel
theorem dX8_isLand_13 : decode cX8_isLand 13 = .ok (.aload_n 0, 1) := by decide +kernel
theorem dX8_isLand_14 : decode cX8_isLand 14 = .ok (.getfield 7, 3) := by decide +kernel
theorem dX8_isLand_17 : decode cX8_isLand 17 = .ok (.sipush 1596, 3) := by decide +kernel
theorem dX8_isLand_20 : decode cX8_isLand 20 = .ok (.iload_n 1, 1) := by decide +kernel
theorem dX8_isLand_21 : decode cX8_isLand 21 = .ok (.iadd, 1) := by decide +kernel
theorem dX8_isLand_22 : decode cX8_isLand 22 = .ok (.iconst 0, 1) := by decide +kernel
theorem dX8_isLand_23 : decode cX8_isLand 23 = .ok (.iastore, 1) := by decide +kernel
theorem dX8_isLand_24 : decode cX8_isLand 24 = .ok (.iinc 1 1, 3) := by decide +kernel
theorem dX8_isLand_27 : decode cX8_isLand 27 = .ok (.goto (-20), 3) := by decide +kernel
theorem dX8_isLand_30 : decode cX8_isLand 30 = .ok (.aload_n 0, 1) := by decide +kernel
theorem dX8_isLand_31 : decode cX8_isLand 31 = .ok (.bipush 102, 2) := by decide +kernel
theorem dX8_isLand_33 : decode cX8_isLand 33 = .ok (.invokevirtual 89, 3) := by decide +kernel
theorem dX8_isLand_36 : decode cX8_isLand 36 = .ok (.ifCond .eq 13, 3) := by decide +kernel
theorem dX8_isLand_49 : decode cX8_isLand 49 = .ok (.iconst 0, 1) := by decide +kernel
theorem dX8_isLand_50 : decode cX8_isLand 50 = .ok (.ireturn, 1) := by decide +kernel
set_option maxRecDepth 20000 in
theorem ggX8_land_X8_isLand : GoodIn wsX8_land wsX8_isLand := goodIn_r _ [10, 11, 5, 12, 1, 13, 14, 15, 9, 16, 17, 18, 19, 20, 21, 22, 23, 24, 25, 26, 3, 27, 28, 29, 30, 31, 32, 33, 34, 35, 36, 37, 38, 39, 40, 41, 42, 43, 44, 45, 46, 47, 48, 49, 50, 51, 52, 53, 54, 55, 60, 61, 62, 63, 64, 65, 66, 67, 68, 69, 70, 71, 72, 73, 74, 75] (by decide +kernel) (by decide +kernel)
set_option maxRecDepth 20000 in
theorem gX8_land_X8_isLand : GoodIn wsX8_land (wsV RX8 110 RX8 yX8_isLand wsX8_isLand) := goodIn_app (goodIn_of _ (by decide +kernel)) ggX8_land_X8_isLand
theorem dX8_land_0 : decode cX8_land 0 = .ok (.aload_n 0, 1) := by decide +kernel
theorem dX8_land_1 : decode cX8_land 1 = .ok (.invokevirtual 110, 3) := by decide +kernel
theorem dX8_land_4 : decode cX8_land 4 = .ok (.istore_n 1, 1) := by decide +kernel
theorem dX8_land_5 : decode cX8_land 5 = .ok (.aload_n 0, 1) := by decide +kernel
theorem dX8_land_6 : decode cX8_land 6 = .ok (.iconst 0, 1) := by decide +kernel
theorem dX8_land_7 : decode cX8_land 7 = .ok (.putfield 58, 3) := by decide +kernel
theorem dX8_land_10 : decode cX8_land 10 = .ok (.iload_n 1, 1) := by decide +kernel
theorem dX8_land_11 : decode cX8_land 11 = .ok (.ifCond .ne 11, 3) := by decide +kernel
theorem dX8_land_14 : decode cX8_land 14 = .ok (.ldc 113, 2) := by decide +kernel
theorem dX8_land_16 : decode cX8_land 16 = .ok (.aload_n 0, 1) := by decide +kernel
theorem dX8_land_17 : decode cX8_land 17 = .ok (.getfield 68, 3) := by decide +kernel
theorem dX8_land_20 : decode cX8_land 20 = .ok (.isub, 1) := by decide +kernel
theorem dX8_land_21 : decode cX8_land 21 = .ok (.ireturn, 1) := by decide +kernel
theorem dX8_fault_0 : decode cX8_fault 0 = .ok (.aload_n 0, 1) := by decide +kernel
theorem dX8_fault_1 : decode cX8_fault 1 = .ok (.getfield 65, 3) := by decide +kernel
theorem dX8_fault_4 : decode cX8_fault 4 = .ok (.ireturn, 1) := by decide +kernel
theorem dX8_undo_0 : decode cX8_undo 0 = .ok (.aload_n 0, 1) := by decide +kernel
theorem dX8_undo_1 : decode cX8_undo 1 = .ok (.getfield 118, 3) := by decide +kernel
theorem dX8_undo_4 : decode cX8_undo 4 = .ok (.ifCond .ne 6, 3) := by decide +kernel
theorem dX8_undo_7 : decode cX8_undo 7 = .ok (.ldc 121, 2) := by decide +kernel
theorem dX8_undo_9 : decode cX8_undo 9 = .ok (.ireturn, 1) := by decide +kernel
set_option maxRecDepth 20000 in
theorem ggX8_isVillageThere_X8_in : GoodIn wsX8_isVillageThere wsX8_in := goodIn_r _ [5] (by decide +kernel) (by decide +kernel)
set_option maxRecDepth 20000 in
theorem gX8_isVillageThere_X8_in : GoodIn wsX8_isVillageThere (va_wsS RX8 42 yX8_in wsX8_in) := goodIn_app (goodIn_of _ (by decide +kernel)) ggX8_isVillageThere_X8_in
theorem dX8_isVillageThere_0 : decode cX8_isVillageThere 0 = .ok (.iload_n 1, 1) := by decide +kernel
theorem dX8_isVillageThere_1 : decode cX8_isVillageThere 1 = .ok (.i2l, 1) := by decide +kernel
theorem dX8_isVillageThere_2 : decode cX8_isVillageThere 2 = .ok (.lconst 0, 1) := by decide +kernel
theorem dX8_isVillageThere_3 : decode cX8_isVillageThere 3 = .ok (.aload_n 0, 1) := by decide +kernel
theorem dX8_isVillageThere_4 : decode cX8_isVillageThere 4 = .ok (.getfield 7, 3) := by decide +kernel
theorem dX8_isVillageThere_7 : decode cX8_isVillageThere 7 = .ok (.iconst 1, 1) := by decide +kernel
theorem dX8_isVillageThere_8 : decode cX8_isVillageThere 8 = .ok (.iaload, 1) := by decide +kernel
theorem dX8_isVillageThere_9 : decode cX8_isVillageThere 9 = .ok (.iconst 1, 1) := by decide +kernel
theorem dX8_isVillageThere_10 : decode cX8_isVillageThere 10 = .ok (.isub, 1) := by decide +kernel
theorem dX8_isVillageThere_11 : decode cX8_isVillageThere 11 = .ok (.i2l, 1) := by decide +kernel
theorem dX8_isVillageThere_12 : decode cX8_isVillageThere 12 = .ok (.invokestatic 42, 3) := by decide +kernel
theorem dX8_isVillageThere_15 : decode cX8_isVillageThere 15 = .ok (.ireturn, 1) := by decide +kernel
set_option maxRecDepth 20000 in
theorem ggX8_isWalkerThere_X8_in : GoodIn wsX8_isWalkerThere wsX8_in := goodIn_r _ [5] (by decide +kernel) (by decide +kernel)
set_option maxRecDepth 20000 in
theorem gX8_isWalkerThere_X8_in : GoodIn wsX8_isWalkerThere (va_wsS RX8 42 yX8_in wsX8_in) := goodIn_app (goodIn_of _ (by decide +kernel)) ggX8_isWalkerThere_X8_in
theorem dX8_isWalkerThere_0 : decode cX8_isWalkerThere 0 = .ok (.iload_n 1, 1) := by decide +kernel
theorem dX8_isWalkerThere_1 : decode cX8_isWalkerThere 1 = .ok (.i2l, 1) := by decide +kernel
theorem dX8_isWalkerThere_2 : decode cX8_isWalkerThere 2 = .ok (.lconst 0, 1) := by decide +kernel
theorem dX8_isWalkerThere_3 : decode cX8_isWalkerThere 3 = .ok (.aload_n 0, 1) := by decide +kernel
theorem dX8_isWalkerThere_4 : decode cX8_isWalkerThere 4 = .ok (.getfield 7, 3) := by decide +kernel
theorem dX8_isWalkerThere_7 : decode cX8_isWalkerThere 7 = .ok (.iconst 2, 1) := by decide +kernel
theorem dX8_isWalkerThere_8 : decode cX8_isWalkerThere 8 = .ok (.iaload, 1) := by decide +kernel
theorem dX8_isWalkerThere_9 : decode cX8_isWalkerThere 9 = .ok (.iconst 1, 1) := by decide +kernel
theorem dX8_isWalkerThere_10 : decode cX8_isWalkerThere 10 = .ok (.isub, 1) := by decide +kernel
theorem dX8_isWalkerThere_11 : decode cX8_isWalkerThere 11 = .ok (.i2l, 1) := by decide +kernel
theorem dX8_isWalkerThere_12 : decode cX8_isWalkerThere 12 = .ok (.invokestatic 42, 3) := by decide +kernel
theorem dX8_isWalkerThere_15 : decode cX8_isWalkerThere 15 = .ok (.ireturn, 1) := by decide +kernel
set_option maxRecDepth 20000 in
theorem ggX8_days_X8_in : GoodIn wsX8_days wsX8_in := goodIn_r _ [9] (by decide +kernel) (by decide +kernel)
set_option maxRecDepth 20000 in
theorem gX8_days_X8_in : GoodIn wsX8_days (va_wsS RX8 42 yX8_in wsX8_in) := goodIn_app (goodIn_of _ (by decide +kernel)) ggX8_days_X8_in
theorem dX8_days_0 : decode cX8_days 0 = .ok (.aload_n 0, 1) := by decide +kernel
theorem dX8_days_1 : decode cX8_days 1 = .ok (.getfield 7, 3) := by decide +kernel
theorem dX8_days_4 : decode cX8_days 4 = .ok (.iconst 1, 1) := by decide +kernel
theorem dX8_days_5 : decode cX8_days 5 = .ok (.iaload, 1) := by decide +kernel
theorem dX8_days_6 : decode cX8_days 6 = .ok (.ifCond .ne 6, 3) := by decide +kernel
theorem dX8_days_9 : decode cX8_days 9 = .ok (.ldc 121, 2) := by decide +kernel
theorem dX8_days_11 : decode cX8_days 11 = .ok (.ireturn, 1) := by decide +kernel
set_option maxRecDepth 20000 in
theorem ggX8_offer_X8_isVillageThere : GoodIn wsX8_offer wsX8_isVillageThere := goodIn_r _ [8, 3, 9, 10, 7, 11, 21, 22, 23, 24, 25, 26, 27, 28, 29, 30, 31, 32, 33, 34, 35, 36] (by decide +kernel) (by decide +kernel)
set_option maxRecDepth 20000 in
theorem gX8_offer_X8_isVillageThere : GoodIn wsX8_offer (wsV RX8 147 RX8 yX8_isVillageThere wsX8_isVillageThere) := goodIn_app (goodIn_of _ (by decide +kernel)) ggX8_offer_X8_isVillageThere
set_option maxRecDepth 20000 in
theorem ggX8_offer_X8_in : GoodIn wsX8_offer wsX8_in := goodIn_r _ [11] (by decide +kernel) (by decide +kernel)
set_option maxRecDepth 20000 in
theorem gX8_offer_X8_in : GoodIn wsX8_offer (va_wsS RX8 42 yX8_in wsX8_in) := goodIn_app (goodIn_of _ (by decide +kernel)) ggX8_offer_X8_in
theorem dX8_offer_0 : decode cX8_offer 0 = .ok (.aload_n 0, 1) := by decide +kernel
theorem dX8_offer_1 : decode cX8_offer 1 = .ok (.iload_n 1, 1) := by decide +kernel
theorem dX8_offer_2 : decode cX8_offer 2 = .ok (.invokevirtual 147, 3) := by decide +kernel
theorem dX8_offer_5 : decode cX8_offer 5 = .ok (.ifCond .eq 15, 3) := by decide +kernel
theorem dX8_offer_20 : decode cX8_offer 20 = .ok (.ldc 48, 2) := by decide +kernel
theorem dX8_offer_22 : decode cX8_offer 22 = .ok (.ireturn, 1) := by decide +kernel
set_option maxRecDepth 20000 in
theorem ggX8_door_X8_isVillageThere : GoodIn wsX8_door wsX8_isVillageThere := goodIn_r _ [8, 2, 9, 10, 7, 11, 24, 25, 26, 27, 28, 29, 30, 31, 32, 33, 34, 35, 36, 37, 38, 39] (by decide +kernel) (by decide +kernel)
set_option maxRecDepth 20000 in
theorem gX8_door_X8_isVillageThere : GoodIn wsX8_door (wsV RX8 147 RX8 yX8_isVillageThere wsX8_isVillageThere) := goodIn_app (goodIn_of _ (by decide +kernel)) ggX8_door_X8_isVillageThere
set_option maxRecDepth 20000 in
theorem ggX8_door_X8_in : GoodIn wsX8_door wsX8_in := goodIn_r _ [11] (by decide +kernel) (by decide +kernel)
set_option maxRecDepth 20000 in
theorem gX8_door_X8_in : GoodIn wsX8_door (va_wsS RX8 42 yX8_in wsX8_in) := goodIn_app (goodIn_of _ (by decide +kernel)) ggX8_door_X8_in
theorem dX8_door_0 : decode cX8_door 0 = .ok (.aload_n 0, 1) := by decide +kernel
theorem dX8_door_1 : decode cX8_door 1 = .ok (.iload_n 1, 1) := by decide +kernel
theorem dX8_door_2 : decode cX8_door 2 = .ok (.invokevirtual 147, 3) := by decide +kernel
theorem dX8_door_5 : decode cX8_door 5 = .ok (.ifCond .eq 13, 3) := by decide +kernel
theorem dX8_door_18 : decode cX8_door 18 = .ok (.ldc 48, 2) := by decide +kernel
theorem dX8_door_20 : decode cX8_door 20 = .ok (.ireturn, 1) := by decide +kernel
set_option maxRecDepth 20000 in
theorem ggX8_village_X8_isVillageThere : GoodIn wsX8_village wsX8_isVillageThere := goodIn_r _ [8, 3, 9, 10, 7, 11, 12, 13, 14, 15, 16, 17, 18, 19, 20, 21, 22, 23, 24, 25, 26, 27] (by decide +kernel) (by decide +kernel)
set_option maxRecDepth 20000 in
theorem gX8_village_X8_isVillageThere : GoodIn wsX8_village (wsV RX8 147 RX8 yX8_isVillageThere wsX8_isVillageThere) := goodIn_app (goodIn_of _ (by decide +kernel)) ggX8_village_X8_isVillageThere
set_option maxRecDepth 20000 in
theorem ggX8_village_X8_in : GoodIn wsX8_village wsX8_in := goodIn_r _ [11] (by decide +kernel) (by decide +kernel)
set_option maxRecDepth 20000 in
theorem gX8_village_X8_in : GoodIn wsX8_village (va_wsS RX8 42 yX8_in wsX8_in) := goodIn_app (goodIn_of _ (by decide +kernel)) ggX8_village_X8_in
theorem dX8_village_0 : decode cX8_village 0 = .ok (.aload_n 0, 1) := by decide +kernel
theorem dX8_village_1 : decode cX8_village 1 = .ok (.iload_n 1, 1) := by decide +kernel
theorem dX8_village_2 : decode cX8_village 2 = .ok (.invokevirtual 147, 3) := by decide +kernel
theorem dX8_village_5 : decode cX8_village 5 = .ok (.ifCond .eq 15, 3) := by decide +kernel
theorem dX8_village_20 : decode cX8_village 20 = .ok (.ldc 48, 2) := by decide +kernel
theorem dX8_village_22 : decode cX8_village 22 = .ok (.ireturn, 1) := by decide +kernel
set_option maxRecDepth 20000 in
theorem ggX8_walker_X8_isWalkerThere : GoodIn wsX8_walker wsX8_isWalkerThere := goodIn_r _ [8, 3, 9, 10, 7, 11, 31, 32, 33, 34, 35, 36, 37, 38, 39, 40, 41, 42, 43, 44, 45, 46] (by decide +kernel) (by decide +kernel)
set_option maxRecDepth 20000 in
theorem gX8_walker_X8_isWalkerThere : GoodIn wsX8_walker (wsV RX8 157 RX8 yX8_isWalkerThere wsX8_isWalkerThere) := goodIn_app (goodIn_of _ (by decide +kernel)) ggX8_walker_X8_isWalkerThere
set_option maxRecDepth 20000 in
theorem ggX8_walker_X8_in : GoodIn wsX8_walker wsX8_in := goodIn_r _ [11] (by decide +kernel) (by decide +kernel)
set_option maxRecDepth 20000 in
theorem gX8_walker_X8_in : GoodIn wsX8_walker (va_wsS RX8 42 yX8_in wsX8_in) := goodIn_app (goodIn_of _ (by decide +kernel)) ggX8_walker_X8_in
theorem dX8_walker_0 : decode cX8_walker 0 = .ok (.aload_n 0, 1) := by decide +kernel
theorem dX8_walker_1 : decode cX8_walker 1 = .ok (.iload_n 1, 1) := by decide +kernel
theorem dX8_walker_2 : decode cX8_walker 2 = .ok (.invokevirtual 157, 3) := by decide +kernel
theorem dX8_walker_5 : decode cX8_walker 5 = .ok (.ifCond .eq 15, 3) := by decide +kernel
theorem dX8_walker_20 : decode cX8_walker 20 = .ok (.ldc 48, 2) := by decide +kernel
theorem dX8_walker_22 : decode cX8_walker 22 = .ok (.ireturn, 1) := by decide +kernel
set_option maxRecDepth 20000 in
theorem ggX8_ahead_X8_isWalkerThere : GoodIn wsX8_ahead wsX8_isWalkerThere := goodIn_r _ [8, 3, 9, 10, 7, 11, 47, 48, 49, 50, 51, 52, 53, 54, 55, 56, 57, 58, 59, 60, 61, 62] (by decide +kernel) (by decide +kernel)
set_option maxRecDepth 20000 in
theorem gX8_ahead_X8_isWalkerThere : GoodIn wsX8_ahead (wsV RX8 157 RX8 yX8_isWalkerThere wsX8_isWalkerThere) := goodIn_app (goodIn_of _ (by decide +kernel)) ggX8_ahead_X8_isWalkerThere
set_option maxRecDepth 20000 in
theorem ggX8_ahead_X8_in : GoodIn wsX8_ahead wsX8_in := goodIn_r _ [11] (by decide +kernel) (by decide +kernel)
set_option maxRecDepth 20000 in
theorem gX8_ahead_X8_in : GoodIn wsX8_ahead (va_wsS RX8 42 yX8_in wsX8_in) := goodIn_app (goodIn_of _ (by decide +kernel)) ggX8_ahead_X8_in
theorem dX8_ahead_0 : decode cX8_ahead 0 = .ok (.aload_n 0, 1) := by decide +kernel
theorem dX8_ahead_1 : decode cX8_ahead 1 = .ok (.iload_n 1, 1) := by decide +kernel
theorem dX8_ahead_2 : decode cX8_ahead 2 = .ok (.invokevirtual 157, 3) := by decide +kernel
theorem dX8_ahead_5 : decode cX8_ahead 5 = .ok (.ifCond .eq 25, 3) := by decide +kernel
theorem dX8_ahead_30 : decode cX8_ahead 30 = .ok (.ldc 48, 2) := by decide +kernel
theorem dX8_ahead_32 : decode cX8_ahead 32 = .ok (.ireturn, 1) := by decide +kernel
set_option maxRecDepth 20000 in
theorem ggX8_cold_X8_in : GoodIn wsX8_cold wsX8_in := goodIn_r _ [9] (by decide +kernel) (by decide +kernel)
set_option maxRecDepth 20000 in
theorem gX8_cold_X8_in : GoodIn wsX8_cold (va_wsS RX8 42 yX8_in wsX8_in) := goodIn_app (goodIn_of _ (by decide +kernel)) ggX8_cold_X8_in
theorem dX8_cold_0 : decode cX8_cold 0 = .ok (.aload_n 0, 1) := by decide +kernel
theorem dX8_cold_1 : decode cX8_cold 1 = .ok (.getfield 7, 3) := by decide +kernel
theorem dX8_cold_4 : decode cX8_cold 4 = .ok (.iconst 1, 1) := by decide +kernel
theorem dX8_cold_5 : decode cX8_cold 5 = .ok (.iaload, 1) := by decide +kernel
theorem dX8_cold_6 : decode cX8_cold 6 = .ok (.ifCond .ne 6, 3) := by decide +kernel
theorem dX8_cold_9 : decode cX8_cold 9 = .ok (.ldc 121, 2) := by decide +kernel
theorem dX8_cold_11 : decode cX8_cold 11 = .ok (.ireturn, 1) := by decide +kernel
set_option maxRecDepth 20000 in
theorem ggX8_nights_X8_isVillageThere : GoodIn wsX8_nights wsX8_isVillageThere := goodIn_r _ [8, 3, 9, 10, 7, 11, 47, 48, 49, 50, 51, 52, 53, 54, 55, 56, 57, 58, 59, 60, 61, 62] (by decide +kernel) (by decide +kernel)
set_option maxRecDepth 20000 in
theorem gX8_nights_X8_isVillageThere : GoodIn wsX8_nights (wsV RX8 147 RX8 yX8_isVillageThere wsX8_isVillageThere) := goodIn_app (goodIn_of _ (by decide +kernel)) ggX8_nights_X8_isVillageThere
set_option maxRecDepth 20000 in
theorem ggX8_nights_X8_in : GoodIn wsX8_nights wsX8_in := goodIn_r _ [11] (by decide +kernel) (by decide +kernel)
set_option maxRecDepth 20000 in
theorem gX8_nights_X8_in : GoodIn wsX8_nights (va_wsS RX8 42 yX8_in wsX8_in) := goodIn_app (goodIn_of _ (by decide +kernel)) ggX8_nights_X8_in
theorem dX8_nights_0 : decode cX8_nights 0 = .ok (.aload_n 0, 1) := by decide +kernel
theorem dX8_nights_1 : decode cX8_nights 1 = .ok (.iload_n 1, 1) := by decide +kernel
theorem dX8_nights_2 : decode cX8_nights 2 = .ok (.invokevirtual 147, 3) := by decide +kernel
theorem dX8_nights_5 : decode cX8_nights 5 = .ok (.ifCond .eq 15, 3) := by decide +kernel
theorem dX8_nights_20 : decode cX8_nights 20 = .ok (.ldc 48, 2) := by decide +kernel
theorem dX8_nights_22 : decode cX8_nights 22 = .ok (.ireturn, 1) := by decide +kernel
set_option maxRecDepth 20000 in
theorem ggX8_freezes_X8_isVillageThere : GoodIn wsX8_freezes wsX8_isVillageThere := goodIn_r _ [7, 8, 9, 10, 6, 11, 48, 49, 50, 51, 52, 53, 54, 55, 56, 57, 58, 59, 60, 61, 62, 63] (by decide +kernel) (by decide +kernel)
set_option maxRecDepth 20000 in
theorem gX8_freezes_X8_isVillageThere : GoodIn wsX8_freezes (wsV RX8 147 RX8 yX8_isVillageThere wsX8_isVillageThere) := goodIn_app (goodIn_of _ (by decide +kernel)) ggX8_freezes_X8_isVillageThere
set_option maxRecDepth 20000 in
theorem ggX8_freezes_X8_in : GoodIn wsX8_freezes wsX8_in := goodIn_r _ [11] (by decide +kernel) (by decide +kernel)
set_option maxRecDepth 20000 in
theorem gX8_freezes_X8_in : GoodIn wsX8_freezes (va_wsS RX8 42 yX8_in wsX8_in) := goodIn_app (goodIn_of _ (by decide +kernel)) ggX8_freezes_X8_in
theorem dX8_freezes_0 : decode cX8_freezes 0 = .ok (.aload_n 0, 1) := by decide +kernel
theorem dX8_freezes_1 : decode cX8_freezes 1 = .ok (.iload_n 1, 1) := by decide +kernel
theorem dX8_freezes_2 : decode cX8_freezes 2 = .ok (.invokevirtual 147, 3) := by decide +kernel
theorem dX8_freezes_5 : decode cX8_freezes 5 = .ok (.ifCond .eq 24, 3) := by decide +kernel
theorem dX8_freezes_29 : decode cX8_freezes 29 = .ok (.ldc 48, 2) := by decide +kernel
theorem dX8_freezes_31 : decode cX8_freezes 31 = .ok (.ireturn, 1) := by decide +kernel
set_option maxRecDepth 20000 in
theorem ggX8_warn_X8_in : GoodIn wsX8_warn wsX8_in := goodIn_r _ [11] (by decide +kernel) (by decide +kernel)
set_option maxRecDepth 20000 in
theorem gX8_warn_X8_in : GoodIn wsX8_warn (va_wsS RX8 42 yX8_in wsX8_in) := goodIn_app (goodIn_of _ (by decide +kernel)) ggX8_warn_X8_in
theorem dX8_warn_0 : decode cX8_warn 0 = .ok (.aload_n 0, 1) := by decide +kernel
theorem dX8_warn_1 : decode cX8_warn 1 = .ok (.getfield 7, 3) := by decide +kernel
theorem dX8_warn_4 : decode cX8_warn 4 = .ok (.iconst 1, 1) := by decide +kernel
theorem dX8_warn_5 : decode cX8_warn 5 = .ok (.iaload, 1) := by decide +kernel
theorem dX8_warn_6 : decode cX8_warn 6 = .ok (.ifCond .ne 6, 3) := by decide +kernel
theorem dX8_warn_9 : decode cX8_warn 9 = .ok (.ldc 121, 2) := by decide +kernel
theorem dX8_warn_11 : decode cX8_warn 11 = .ok (.ireturn, 1) := by decide +kernel
set_option maxRecDepth 20000 in
theorem ggX8_lure_X8_isVillageThere : GoodIn wsX8_lure wsX8_isVillageThere := goodIn_r _ [9, 3, 10, 11, 8, 12, 48, 49, 50, 51, 52, 53, 54, 55, 56, 57, 58, 59, 60, 61, 62, 63] (by decide +kernel) (by decide +kernel)
set_option maxRecDepth 20000 in
theorem gX8_lure_X8_isVillageThere : GoodIn wsX8_lure (wsV RX8 147 RX8 yX8_isVillageThere wsX8_isVillageThere) := goodIn_app (goodIn_of _ (by decide +kernel)) ggX8_lure_X8_isVillageThere
set_option maxRecDepth 20000 in
theorem ggX8_lure_X8_in : GoodIn wsX8_lure wsX8_in := goodIn_r _ [12] (by decide +kernel) (by decide +kernel)
set_option maxRecDepth 20000 in
theorem gX8_lure_X8_in : GoodIn wsX8_lure (va_wsS RX8 42 yX8_in wsX8_in) := goodIn_app (goodIn_of _ (by decide +kernel)) ggX8_lure_X8_in
theorem dX8_lure_0 : decode cX8_lure 0 = .ok (.aload_n 0, 1) := by decide +kernel
theorem dX8_lure_1 : decode cX8_lure 1 = .ok (.iload_n 1, 1) := by decide +kernel
theorem dX8_lure_2 : decode cX8_lure 2 = .ok (.invokevirtual 147, 3) := by decide +kernel
theorem dX8_lure_5 : decode cX8_lure 5 = .ok (.ifCond .eq 15, 3) := by decide +kernel
theorem dX8_lure_20 : decode cX8_lure 20 = .ok (.ldc 48, 2) := by decide +kernel
theorem dX8_lure_22 : decode cX8_lure 22 = .ok (.ireturn, 1) := by decide +kernel
set_option maxRecDepth 20000 in
theorem ggX8_keepsAway_X8_isVillageThere : GoodIn wsX8_keepsAway wsX8_isVillageThere := goodIn_r _ [9, 3, 10, 11, 8, 12, 51, 52, 53, 54, 55, 56, 57, 58, 59, 60, 61, 62, 63, 64, 65, 66] (by decide +kernel) (by decide +kernel)
set_option maxRecDepth 20000 in
theorem gX8_keepsAway_X8_isVillageThere : GoodIn wsX8_keepsAway (wsV RX8 147 RX8 yX8_isVillageThere wsX8_isVillageThere) := goodIn_app (goodIn_of _ (by decide +kernel)) ggX8_keepsAway_X8_isVillageThere
set_option maxRecDepth 20000 in
theorem ggX8_keepsAway_X8_in : GoodIn wsX8_keepsAway wsX8_in := goodIn_r _ [12] (by decide +kernel) (by decide +kernel)
set_option maxRecDepth 20000 in
theorem gX8_keepsAway_X8_in : GoodIn wsX8_keepsAway (va_wsS RX8 42 yX8_in wsX8_in) := goodIn_app (goodIn_of _ (by decide +kernel)) ggX8_keepsAway_X8_in
theorem dX8_keepsAway_0 : decode cX8_keepsAway 0 = .ok (.aload_n 0, 1) := by decide +kernel
theorem dX8_keepsAway_1 : decode cX8_keepsAway 1 = .ok (.iload_n 1, 1) := by decide +kernel
theorem dX8_keepsAway_2 : decode cX8_keepsAway 2 = .ok (.invokevirtual 147, 3) := by decide +kernel
theorem dX8_keepsAway_5 : decode cX8_keepsAway 5 = .ok (.ifCond .eq 25, 3) := by decide +kernel
theorem dX8_keepsAway_30 : decode cX8_keepsAway 30 = .ok (.ldc 48, 2) := by decide +kernel
theorem dX8_keepsAway_32 : decode cX8_keepsAway 32 = .ok (.ireturn, 1) := by decide +kernel
set_option maxRecDepth 20000 in
theorem ggX8_bid_X8_isVillageThere : GoodIn wsX8_bid wsX8_isVillageThere := goodIn_r _ [7, 8, 9, 10, 6, 11, 47, 48, 49, 50, 51, 52, 53, 54, 55, 56, 57, 58, 59, 60, 61, 62] (by decide +kernel) (by decide +kernel)
set_option maxRecDepth 20000 in
theorem gX8_bid_X8_isVillageThere : GoodIn wsX8_bid (wsV RX8 147 RX8 yX8_isVillageThere wsX8_isVillageThere) := goodIn_app (goodIn_of _ (by decide +kernel)) ggX8_bid_X8_isVillageThere
set_option maxRecDepth 20000 in
theorem ggX8_bid_X8_in : GoodIn wsX8_bid wsX8_in := goodIn_r _ [11] (by decide +kernel) (by decide +kernel)
set_option maxRecDepth 20000 in
theorem gX8_bid_X8_in : GoodIn wsX8_bid (va_wsS RX8 42 yX8_in wsX8_in) := goodIn_app (goodIn_of _ (by decide +kernel)) ggX8_bid_X8_in
theorem dX8_bid_0 : decode cX8_bid 0 = .ok (.aload_n 0, 1) := by decide +kernel
theorem dX8_bid_1 : decode cX8_bid 1 = .ok (.iload_n 1, 1) := by decide +kernel
theorem dX8_bid_2 : decode cX8_bid 2 = .ok (.invokevirtual 147, 3) := by decide +kernel
theorem dX8_bid_5 : decode cX8_bid 5 = .ok (.ifCond .eq 25, 3) := by decide +kernel
theorem dX8_bid_30 : decode cX8_bid 30 = .ok (.ldc 48, 2) := by decide +kernel
theorem dX8_bid_32 : decode cX8_bid 32 = .ok (.ireturn, 1) := by decide +kernel
set_option maxRecDepth 20000 in
theorem ggX8_rests_X8_in : GoodIn wsX8_rests wsX8_in := goodIn_r _ [8] (by decide +kernel) (by decide +kernel)
set_option maxRecDepth 20000 in
theorem gX8_rests_X8_in : GoodIn wsX8_rests (va_wsS RX8 42 yX8_in wsX8_in) := goodIn_app (goodIn_of _ (by decide +kernel)) ggX8_rests_X8_in
theorem dX8_rests_0 : decode cX8_rests 0 = .ok (.aload_n 0, 1) := by decide +kernel
theorem dX8_rests_1 : decode cX8_rests 1 = .ok (.getfield 7, 3) := by decide +kernel
theorem dX8_rests_4 : decode cX8_rests 4 = .ok (.iconst 1, 1) := by decide +kernel
theorem dX8_rests_5 : decode cX8_rests 5 = .ok (.iaload, 1) := by decide +kernel
theorem dX8_rests_6 : decode cX8_rests 6 = .ok (.ifCond .ne 6, 3) := by decide +kernel
theorem dX8_rests_9 : decode cX8_rests 9 = .ok (.ldc 121, 2) := by decide +kernel
theorem dX8_rests_11 : decode cX8_rests 11 = .ok (.ireturn, 1) := by decide +kernel
set_option maxRecDepth 20000 in
theorem ggX8_fits_X8_isWalkerThere : GoodIn wsX8_fits wsX8_isWalkerThere := goodIn_r _ [10, 4, 11, 12, 9, 13, 60, 61, 62, 63, 64, 65, 66, 67, 68, 69, 70, 71, 72, 73, 74, 75] (by decide +kernel) (by decide +kernel)
set_option maxRecDepth 20000 in
theorem gX8_fits_X8_isWalkerThere : GoodIn wsX8_fits (wsV RX8 157 RX8 yX8_isWalkerThere wsX8_isWalkerThere) := goodIn_app (goodIn_of _ (by decide +kernel)) ggX8_fits_X8_isWalkerThere
set_option maxRecDepth 20000 in
theorem ggX8_fits_X8_in : GoodIn wsX8_fits wsX8_in := goodIn_r _ [13] (by decide +kernel) (by decide +kernel)
set_option maxRecDepth 20000 in
theorem gX8_fits_X8_in : GoodIn wsX8_fits (va_wsS RX8 42 yX8_in wsX8_in) := goodIn_app (goodIn_of _ (by decide +kernel)) ggX8_fits_X8_in
set_option maxRecDepth 20000 in
theorem ggX8_fits_X8_finds : GoodIn wsX8_fits wsX8_finds := goodIn_r _ [22, 23, 24, 60, 61, 62, 63, 64, 65, 66, 67, 68, 69, 70, 71, 72, 73, 74, 75] (by decide +kernel) (by decide +kernel)
set_option maxRecDepth 20000 in
theorem gX8_fits_X8_finds : GoodIn wsX8_fits (wsV RX8 49 RX8 yX8_finds wsX8_finds) := goodIn_app (goodIn_of _ (by decide +kernel)) ggX8_fits_X8_finds
set_option maxRecDepth 20000 in
theorem ggX8_fits_X8_told : GoodIn wsX8_fits wsX8_told := goodIn_r _ [59, 23, 60, 61, 62, 63, 64, 65, 66, 67, 68, 69, 70, 71, 72, 73, 74, 75] (by decide +kernel) (by decide +kernel)
set_option maxRecDepth 20000 in
theorem gX8_fits_X8_told : GoodIn wsX8_fits (wsV RX8 53 RX8 yX8_told wsX8_told) := goodIn_app (goodIn_of _ (by decide +kernel)) ggX8_fits_X8_told
theorem dX8_fits_0 : decode cX8_fits 0 = .ok (.aload_n 0, 1) := by decide +kernel
theorem dX8_fits_1 : decode cX8_fits 1 = .ok (.iload_n 1, 1) := by decide +kernel
theorem dX8_fits_2 : decode cX8_fits 2 = .ok (.invokevirtual 157, 3) := by decide +kernel
theorem dX8_fits_5 : decode cX8_fits 5 = .ok (.ifCond .eq 28, 3) := by decide +kernel
theorem dX8_fits_33 : decode cX8_fits 33 = .ok (.ldc 48, 2) := by decide +kernel
theorem dX8_fits_35 : decode cX8_fits 35 = .ok (.ireturn, 1) := by decide +kernel
set_option maxRecDepth 20000 in
theorem ggX8_round_X8_isWalkerThere : GoodIn wsX8_round wsX8_isWalkerThere := goodIn_r _ [7, 2, 8, 9, 6, 10, 42, 43, 44, 45, 46, 47, 48, 49, 50, 51, 52, 53, 54, 55, 56, 57] (by decide +kernel) (by decide +kernel)
set_option maxRecDepth 20000 in
theorem gX8_round_X8_isWalkerThere : GoodIn wsX8_round (wsV RX8 157 RX8 yX8_isWalkerThere wsX8_isWalkerThere) := goodIn_app (goodIn_of _ (by decide +kernel)) ggX8_round_X8_isWalkerThere
theorem dX8_round_0 : decode cX8_round 0 = .ok (.aload_n 0, 1) := by decide +kernel
theorem dX8_round_1 : decode cX8_round 1 = .ok (.iload_n 1, 1) := by decide +kernel
theorem dX8_round_2 : decode cX8_round 2 = .ok (.invokevirtual 157, 3) := by decide +kernel
theorem dX8_round_5 : decode cX8_round 5 = .ok (.ifCond .ne 6, 3) := by decide +kernel
theorem dX8_round_8 : decode cX8_round 8 = .ok (.ldc 48, 2) := by decide +kernel
theorem dX8_round_10 : decode cX8_round 10 = .ok (.ireturn, 1) := by decide +kernel
set_option maxRecDepth 20000 in
theorem ggX8_meet_X8_in : GoodIn wsX8_meet wsX8_in := goodIn_r _ [9] (by decide +kernel) (by decide +kernel)
set_option maxRecDepth 20000 in
theorem gX8_meet_X8_in : GoodIn wsX8_meet (va_wsS RX8 42 yX8_in wsX8_in) := goodIn_app (goodIn_of _ (by decide +kernel)) ggX8_meet_X8_in
theorem dX8_meet_0 : decode cX8_meet 0 = .ok (.aload_n 0, 1) := by decide +kernel
theorem dX8_meet_1 : decode cX8_meet 1 = .ok (.getfield 7, 3) := by decide +kernel
theorem dX8_meet_4 : decode cX8_meet 4 = .ok (.iconst 1, 1) := by decide +kernel
theorem dX8_meet_5 : decode cX8_meet 5 = .ok (.iaload, 1) := by decide +kernel
theorem dX8_meet_6 : decode cX8_meet 6 = .ok (.ifCond .ne 6, 3) := by decide +kernel
theorem dX8_meet_9 : decode cX8_meet 9 = .ok (.ldc 121, 2) := by decide +kernel
theorem dX8_meet_11 : decode cX8_meet 11 = .ok (.ireturn, 1) := by decide +kernel
set_option maxRecDepth 20000 in
theorem ggX8_slept_X8_isWalkerThere : GoodIn wsX8_slept wsX8_isWalkerThere := goodIn_r _ [11, 5, 12, 13, 10, 14, 69, 70, 71, 72, 73, 74, 75, 76, 77, 78, 79, 80, 81, 82, 83, 84] (by decide +kernel) (by decide +kernel)
set_option maxRecDepth 20000 in
theorem gX8_slept_X8_isWalkerThere : GoodIn wsX8_slept (wsV RX8 157 RX8 yX8_isWalkerThere wsX8_isWalkerThere) := goodIn_app (goodIn_of _ (by decide +kernel)) ggX8_slept_X8_isWalkerThere
set_option maxRecDepth 20000 in
theorem ggX8_slept_X8_in : GoodIn wsX8_slept wsX8_in := goodIn_r _ [14] (by decide +kernel) (by decide +kernel)
set_option maxRecDepth 20000 in
theorem gX8_slept_X8_in : GoodIn wsX8_slept (va_wsS RX8 42 yX8_in wsX8_in) := goodIn_app (goodIn_of _ (by decide +kernel)) ggX8_slept_X8_in
set_option maxRecDepth 20000 in
theorem ggX8_slept_X8_finds : GoodIn wsX8_slept wsX8_finds := goodIn_r _ [23, 24, 25, 69, 70, 71, 72, 73, 74, 75, 76, 77, 78, 79, 80, 81, 82, 83, 84] (by decide +kernel) (by decide +kernel)
set_option maxRecDepth 20000 in
theorem gX8_slept_X8_finds : GoodIn wsX8_slept (wsV RX8 49 RX8 yX8_finds wsX8_finds) := goodIn_app (goodIn_of _ (by decide +kernel)) ggX8_slept_X8_finds
set_option maxRecDepth 20000 in
theorem ggX8_slept_X8_told : GoodIn wsX8_slept wsX8_told := goodIn_r _ [68, 24, 69, 70, 71, 72, 73, 74, 75, 76, 77, 78, 79, 80, 81, 82, 83, 84] (by decide +kernel) (by decide +kernel)
set_option maxRecDepth 20000 in
theorem gX8_slept_X8_told : GoodIn wsX8_slept (wsV RX8 53 RX8 yX8_told wsX8_told) := goodIn_app (goodIn_of _ (by decide +kernel)) ggX8_slept_X8_told
theorem dX8_slept_0 : decode cX8_slept 0 = .ok (.aload_n 0, 1) := by decide +kernel
theorem dX8_slept_1 : decode cX8_slept 1 = .ok (.iload_n 1, 1) := by decide +kernel
theorem dX8_slept_2 : decode cX8_slept 2 = .ok (.invokevirtual 157, 3) := by decide +kernel
theorem dX8_slept_5 : decode cX8_slept 5 = .ok (.ifCond .eq 39, 3) := by decide +kernel
theorem dX8_slept_44 : decode cX8_slept 44 = .ok (.ldc 48, 2) := by decide +kernel
theorem dX8_slept_46 : decode cX8_slept 46 = .ok (.ireturn, 1) := by decide +kernel
set_option maxRecDepth 20000 in
theorem ggX8_late_X8_isWalkerThere : GoodIn wsX8_late wsX8_isWalkerThere := goodIn_r _ [9, 4, 10, 11, 8, 12, 48, 49, 50, 51, 52, 53, 54, 55, 56, 57, 58, 59, 60, 61, 62, 63] (by decide +kernel) (by decide +kernel)
set_option maxRecDepth 20000 in
theorem gX8_late_X8_isWalkerThere : GoodIn wsX8_late (wsV RX8 157 RX8 yX8_isWalkerThere wsX8_isWalkerThere) := goodIn_app (goodIn_of _ (by decide +kernel)) ggX8_late_X8_isWalkerThere
set_option maxRecDepth 20000 in
theorem ggX8_late_X8_in : GoodIn wsX8_late wsX8_in := goodIn_r _ [12] (by decide +kernel) (by decide +kernel)
set_option maxRecDepth 20000 in
theorem gX8_late_X8_in : GoodIn wsX8_late (va_wsS RX8 42 yX8_in wsX8_in) := goodIn_app (goodIn_of _ (by decide +kernel)) ggX8_late_X8_in
set_option maxRecDepth 20000 in
theorem ggX8_late_X8_isVillageThere : GoodIn wsX8_late wsX8_isVillageThere := goodIn_r _ [16, 4, 10, 11, 8, 12, 48, 49, 50, 51, 52, 53, 54, 55, 56, 57, 58, 59, 60, 61, 62, 63] (by decide +kernel) (by decide +kernel)
set_option maxRecDepth 20000 in
theorem gX8_late_X8_isVillageThere : GoodIn wsX8_late (wsV RX8 147 RX8 yX8_isVillageThere wsX8_isVillageThere) := goodIn_app (goodIn_of _ (by decide +kernel)) ggX8_late_X8_isVillageThere
theorem dX8_late_0 : decode cX8_late 0 = .ok (.aload_n 0, 1) := by decide +kernel
theorem dX8_late_1 : decode cX8_late 1 = .ok (.iload_n 1, 1) := by decide +kernel
theorem dX8_late_2 : decode cX8_late 2 = .ok (.invokevirtual 157, 3) := by decide +kernel
theorem dX8_late_5 : decode cX8_late 5 = .ok (.ifCond .eq 47, 3) := by decide +kernel
theorem dX8_late_52 : decode cX8_late 52 = .ok (.ldc2_w 197, 3) := by decide +kernel
theorem dX8_late_55 : decode cX8_late 55 = .ok (.lreturn, 1) := by decide +kernel
set_option maxRecDepth 20000 in
theorem ggX8_year_X8_in : GoodIn wsX8_year wsX8_in := goodIn_r _ [11] (by decide +kernel) (by decide +kernel)
set_option maxRecDepth 20000 in
theorem gX8_year_X8_in : GoodIn wsX8_year (va_wsS RX8 42 yX8_in wsX8_in) := goodIn_app (goodIn_of _ (by decide +kernel)) ggX8_year_X8_in
theorem dX8_year_0 : decode cX8_year 0 = .ok (.aload_n 0, 1) := by decide +kernel
theorem dX8_year_1 : decode cX8_year 1 = .ok (.getfield 7, 3) := by decide +kernel
theorem dX8_year_4 : decode cX8_year 4 = .ok (.iconst 1, 1) := by decide +kernel
theorem dX8_year_5 : decode cX8_year 5 = .ok (.iaload, 1) := by decide +kernel
theorem dX8_year_6 : decode cX8_year 6 = .ok (.ifCond .ne 6, 3) := by decide +kernel
theorem dX8_year_9 : decode cX8_year 9 = .ok (.ldc 121, 2) := by decide +kernel
theorem dX8_year_11 : decode cX8_year 11 = .ok (.ireturn, 1) := by decide +kernel
set_option maxRecDepth 20000 in
theorem ggX8_image_X8_in : GoodIn wsX8_image wsX8_in := goodIn_r _ [7] (by decide +kernel) (by decide +kernel)
set_option maxRecDepth 20000 in
theorem gX8_image_X8_in : GoodIn wsX8_image (va_wsS RX8 42 yX8_in wsX8_in) := goodIn_app (goodIn_of _ (by decide +kernel)) ggX8_image_X8_in
theorem dX8_image_0 : decode cX8_image 0 = .ok (.iload_n 1, 1) := by decide +kernel
theorem dX8_image_1 : decode cX8_image 1 = .ok (.i2l, 1) := by decide +kernel
theorem dX8_image_2 : decode cX8_image 2 = .ok (.lconst 0, 1) := by decide +kernel
theorem dX8_image_3 : decode cX8_image 3 = .ok (.lconst 1, 1) := by decide +kernel
theorem dX8_image_4 : decode cX8_image 4 = .ok (.invokestatic 42, 3) := by decide +kernel
theorem dX8_image_7 : decode cX8_image 7 = .ok (.ifCond .ne 6, 3) := by decide +kernel
theorem dX8_image_10 : decode cX8_image 10 = .ok (.ldc 48, 2) := by decide +kernel
theorem dX8_image_12 : decode cX8_image 12 = .ok (.ireturn, 1) := by decide +kernel
theorem dX8_image_13 : decode cX8_image 13 = .ok (.aload_n 0, 1) := by decide +kernel
theorem dX8_image_14 : decode cX8_image 14 = .ok (.getfield 7, 3) := by decide +kernel
theorem dX8_image_17 : decode cX8_image 17 = .ok (.iconst 1, 1) := by decide +kernel
theorem dX8_image_18 : decode cX8_image 18 = .ok (.iaload, 1) := by decide +kernel
theorem dX8_image_19 : decode cX8_image 19 = .ok (.ifCond .ne 6, 3) := by decide +kernel
theorem dX8_image_22 : decode cX8_image 22 = .ok (.ldc 121, 2) := by decide +kernel
theorem dX8_image_24 : decode cX8_image 24 = .ok (.ireturn, 1) := by decide +kernel
set_option maxRecDepth 20000 in
theorem ggX8_restore_X8_in : GoodIn wsX8_restore wsX8_in := goodIn_r _ [8] (by decide +kernel) (by decide +kernel)
set_option maxRecDepth 20000 in
theorem gX8_restore_X8_in : GoodIn wsX8_restore (va_wsS RX8 42 yX8_in wsX8_in) := goodIn_app (goodIn_of _ (by decide +kernel)) ggX8_restore_X8_in
theorem dX8_restore_0 : decode cX8_restore 0 = .ok (.iload_n 1, 1) := by decide +kernel
theorem dX8_restore_1 : decode cX8_restore 1 = .ok (.i2l, 1) := by decide +kernel
theorem dX8_restore_2 : decode cX8_restore 2 = .ok (.lconst 0, 1) := by decide +kernel
theorem dX8_restore_3 : decode cX8_restore 3 = .ok (.lconst 1, 1) := by decide +kernel
theorem dX8_restore_4 : decode cX8_restore 4 = .ok (.invokestatic 42, 3) := by decide +kernel
theorem dX8_restore_7 : decode cX8_restore 7 = .ok (.ifCond .ne 6, 3) := by decide +kernel
theorem dX8_restore_10 : decode cX8_restore 10 = .ok (.ldc 48, 2) := by decide +kernel
theorem dX8_restore_12 : decode cX8_restore 12 = .ok (.ireturn, 1) := by decide +kernel
theorem dX8_restore_13 : decode cX8_restore 13 = .ok (.aload_n 0, 1) := by decide +kernel
theorem dX8_restore_14 : decode cX8_restore 14 = .ok (.getfield 7, 3) := by decide +kernel
theorem dX8_restore_17 : decode cX8_restore 17 = .ok (.iload_n 1, 1) := by decide +kernel
theorem dX8_restore_18 : decode cX8_restore 18 = .ok (.iconst 1, 1) := by decide +kernel
theorem dX8_restore_19 : decode cX8_restore 19 = .ok (.iadd, 1) := by decide +kernel
theorem dX8_restore_20 : decode cX8_restore 20 = .ok (.bipush 57, 2) := by decide +kernel
theorem dX8_restore_22 : decode cX8_restore 22 = .ok (.imul, 1) := by decide +kernel
theorem dX8_restore_23 : decode cX8_restore 23 = .ok (.iconst 1, 1) := by decide +kernel
theorem dX8_restore_24 : decode cX8_restore 24 = .ok (.iadd, 1) := by decide +kernel
theorem dX8_restore_25 : decode cX8_restore 25 = .ok (.iaload, 1) := by decide +kernel
theorem dX8_restore_26 : decode cX8_restore 26 = .ok (.ifCond .ne 6, 3) := by decide +kernel
theorem dX8_restore_29 : decode cX8_restore 29 = .ok (.ldc 121, 2) := by decide +kernel
theorem dX8_restore_31 : decode cX8_restore 31 = .ok (.ireturn, 1) := by decide +kernel
set_option maxRecDepth 20000 in
theorem ggX8_kind_X8_isWalkerThere : GoodIn wsX8_kind wsX8_isWalkerThere := goodIn_r _ [7, 1, 8, 9, 6, 10, 11, 12, 13, 14, 15, 16, 17, 18, 19, 20, 21, 22, 23, 24, 25, 26] (by decide +kernel) (by decide +kernel)
set_option maxRecDepth 20000 in
theorem gX8_kind_X8_isWalkerThere : GoodIn wsX8_kind (wsV RX8 157 RX8 yX8_isWalkerThere wsX8_isWalkerThere) := goodIn_app (goodIn_of _ (by decide +kernel)) ggX8_kind_X8_isWalkerThere
theorem dX8_kind_0 : decode cX8_kind 0 = .ok (.aload_n 0, 1) := by decide +kernel
theorem dX8_kind_1 : decode cX8_kind 1 = .ok (.iload_n 1, 1) := by decide +kernel
theorem dX8_kind_2 : decode cX8_kind 2 = .ok (.invokevirtual 157, 3) := by decide +kernel
theorem dX8_kind_5 : decode cX8_kind 5 = .ok (.ifCond .eq 15, 3) := by decide +kernel
theorem dX8_kind_20 : decode cX8_kind 20 = .ok (.ldc 48, 2) := by decide +kernel
theorem dX8_kind_22 : decode cX8_kind 22 = .ok (.ireturn, 1) := by decide +kernel
set_option maxRecDepth 20000 in
theorem ggX8_as_X8_isWalkerThere : GoodIn wsX8_as wsX8_isWalkerThere := goodIn_r _ [8, 3, 9, 10, 7, 11, 25, 26, 27, 28, 29, 30, 31, 32, 33, 34, 35, 36, 37, 38, 39, 40] (by decide +kernel) (by decide +kernel)
set_option maxRecDepth 20000 in
theorem gX8_as_X8_isWalkerThere : GoodIn wsX8_as (wsV RX8 157 RX8 yX8_isWalkerThere wsX8_isWalkerThere) := goodIn_app (goodIn_of _ (by decide +kernel)) ggX8_as_X8_isWalkerThere
set_option maxRecDepth 20000 in
theorem ggX8_as_X8_in : GoodIn wsX8_as wsX8_in := goodIn_r _ [11] (by decide +kernel) (by decide +kernel)
set_option maxRecDepth 20000 in
theorem gX8_as_X8_in : GoodIn wsX8_as (va_wsS RX8 42 yX8_in wsX8_in) := goodIn_app (goodIn_of _ (by decide +kernel)) ggX8_as_X8_in
set_option maxRecDepth 20000 in
theorem ggX8_as_X8_told : GoodIn wsX8_as wsX8_told := goodIn_r _ [18, 19, 25, 26, 27, 28, 29, 30, 31, 32, 33, 34, 35, 36, 37, 38, 39, 40] (by decide +kernel) (by decide +kernel)
set_option maxRecDepth 20000 in
theorem gX8_as_X8_told : GoodIn wsX8_as (wsV RX8 53 RX8 yX8_told wsX8_told) := goodIn_app (goodIn_of _ (by decide +kernel)) ggX8_as_X8_told
set_option maxRecDepth 20000 in
theorem ggX8_as_X8_finds : GoodIn wsX8_as wsX8_finds := goodIn_r _ [23, 19, 24, 25, 26, 27, 28, 29, 30, 31, 32, 33, 34, 35, 36, 37, 38, 39, 40] (by decide +kernel) (by decide +kernel)
set_option maxRecDepth 20000 in
theorem gX8_as_X8_finds : GoodIn wsX8_as (wsV RX8 49 RX8 yX8_finds wsX8_finds) := goodIn_app (goodIn_of _ (by decide +kernel)) ggX8_as_X8_finds
theorem dX8_as_0 : decode cX8_as 0 = .ok (.aload_n 0, 1) := by decide +kernel
theorem dX8_as_1 : decode cX8_as 1 = .ok (.iload_n 1, 1) := by decide +kernel
theorem dX8_as_2 : decode cX8_as 2 = .ok (.invokevirtual 157, 3) := by decide +kernel
theorem dX8_as_5 : decode cX8_as 5 = .ok (.ifCond .eq 15, 3) := by decide +kernel
theorem dX8_as_20 : decode cX8_as 20 = .ok (.ldc 48, 2) := by decide +kernel
theorem dX8_as_22 : decode cX8_as 22 = .ok (.ireturn, 1) := by decide +kernel
set_option maxRecDepth 20000 in
theorem ggX8_ask_X8_isWalkerThere : GoodIn wsX8_ask wsX8_isWalkerThere := goodIn_r _ [7, 8, 9, 10, 6, 11, 49, 50, 51, 52, 53, 54, 55, 56, 57, 58, 59, 60, 61, 62, 63, 64] (by decide +kernel) (by decide +kernel)
set_option maxRecDepth 20000 in
theorem gX8_ask_X8_isWalkerThere : GoodIn wsX8_ask (wsV RX8 157 RX8 yX8_isWalkerThere wsX8_isWalkerThere) := goodIn_app (goodIn_of _ (by decide +kernel)) ggX8_ask_X8_isWalkerThere
set_option maxRecDepth 20000 in
theorem ggX8_ask_X8_in : GoodIn wsX8_ask wsX8_in := goodIn_r _ [11] (by decide +kernel) (by decide +kernel)
