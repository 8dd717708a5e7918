theorem dX8_land_1 : decode cX8_land 1 = .ok (.invokevirtual 110, 3) := by decide +kernel
theorem dX8_land_4 : decode cX8_land 4 = .ok (.istore_n 1, 1) := by decide +kernel
theorem dX8_land_5 : decode cX8_land 5 = .ok (.aload_n 0, 1) := by decide +kernel
theorem dX8_land_6 : decode cX8_land 6 = .ok (.iconst 0, 1) := by decide +kernel
theorem dX8_land_7 : decode cX8_land 7 = .ok (.putfield 58, 3) := by decide +kernel
theorem dX8_land_10 : decode cX8_land 10 = .ok (.iload_n 1, 1) := by decide +kernel
theorem dX8_land_11 : decode cX8_land 11 = .ok (.ifCond .ne 11, 3) := by decide +kernel
theorem dX8_land_14 : decode cX8_land 14 = .ok (.ldc 113, 2) := by decide +kernel
theorem dX8_land_16 : decode cX8_land 16 = .ok (.aload_n 0, 1) := by decide +kernel
theorem dX8_land_17 : decode cX8_land 17 = .ok (.getfield 68, 3) := by decide +kernel
theorem dX8_land_20 : decode cX8_land 20 = .ok (.isub, 1) := by decide +kernel
theorem dX8_land_21 : decode cX8_land 21 = .ok (.ireturn, 1) := by decide +kernel
theorem dX8_land_22 : decode cX8_land 22 = .ok (.aload_n 0, 1) := by decide +kernel
theorem dX8_land_23 : decode cX8_land 23 = .ok (.bipush 28, 2) := by decide +kernel
theorem dX8_land_25 : decode cX8_land 25 = .ok (.iconst 0, 1) := by decide +kernel
theorem dX8_land_26 : decode cX8_land 26 = .ok (.invokevirtual 114, 3) := by decide +kernel
theorem dX8_land_29 : decode cX8_land 29 = .ok (.aload_n 0, 1) := by decide +kernel
theorem dX8_land_30 : decode cX8_land 30 = .ok (.iconst 0, 1) := by decide +kernel
theorem dX8_land_31 : decode cX8_land 31 = .ok (.putfield 118, 3) := by decide +kernel
theorem dX8_land_34 : decode cX8_land 34 = .ok (.aload_n 0, 1) := by decide +kernel
theorem dX8_land_35 : decode cX8_land 35 = .ok (.getfield 7, 3) := by decide +kernel
theorem dX8_land_38 : decode cX8_land 38 = .ok (.iconst 1, 1) := by decide +kernel
theorem dX8_land_39 : decode cX8_land 39 = .ok (.iaload, 1) := by decide +kernel
theorem dX8_land_40 : decode cX8_land 40 = .ok (.ireturn, 1) := by decide +kernel
theorem dX8_fault_0 : decode cX8_fault 0 = .ok (.aload_n 0, 1) := by decide +kernel
theorem dX8_fault_1 : decode cX8_fault 1 = .ok (.getfield 65, 3) := by decide +kernel
theorem dX8_fault_4 : decode cX8_fault 4 = .ok (.ireturn, 1) := by decide +kernel
theorem dX8_copies_0 : decode cX8_copies 0 = .ok (.iconst 0, 1) := by decide +kernel
theorem dX8_copies_1 : decode cX8_copies 1 = .ok (.istore_n 3, 1) := by decide +kernel
theorem dX8_copies_2 : decode cX8_copies 2 = .ok (.iload_n 3, 1) := by decide +kernel
theorem dX8_copies_3 : decode cX8_copies 3 = .ok (.bipush 57, 2) := by decide +kernel
theorem dX8_copies_5 : decode cX8_copies 5 = .ok (.if_icmp .ge 31, 3) := by decide +kernel
theorem dX8_copies_8 : decode cX8_copies 8 = .ok (.aload_n 0, 1) := by decide +kernel
theorem dX8_copies_9 : decode cX8_copies 9 = .ok (.getfield 7, 3) := by decide +kernel
theorem dX8_copies_12 : decode cX8_copies 12 = .ok (.iload_n 2, 1) := by decide +kernel
theorem dX8_copies_13 : decode cX8_copies 13 = .ok (.bipush 57, 2) := by decide +kernel
theorem dX8_copies_15 : decode cX8_copies 15 = .ok (.imul, 1) := by decide +kernel
theorem dX8_copies_16 : decode cX8_copies 16 = .ok (.iload_n 3, 1) := by decide +kernel
theorem dX8_copies_17 : decode cX8_copies 17 = .ok (.iadd, 1) := by decide +kernel
theorem dX8_copies_18 : decode cX8_copies 18 = .ok (.aload_n 0, 1) := by decide +kernel
theorem dX8_copies_19 : decode cX8_copies 19 = .ok (.getfield 7, 3) := by decide +kernel
theorem dX8_copies_22 : decode cX8_copies 22 = .ok (.iload_n 1, 1) := by decide +kernel
theorem dX8_copies_23 : decode cX8_copies 23 = .ok (.bipush 57, 2) := by decide +kernel
theorem dX8_copies_25 : decode cX8_copies 25 = .ok (.imul, 1) := by decide +kernel
theorem dX8_copies_26 : decode cX8_copies 26 = .ok (.iload_n 3, 1) := by decide +kernel
theorem dX8_copies_27 : decode cX8_copies 27 = .ok (.iadd, 1) := by decide +kernel
theorem dX8_copies_28 : decode cX8_copies 28 = .ok (.iaload, 1) := by decide +kernel
theorem dX8_copies_29 : decode cX8_copies 29 = .ok (.iastore, 1) := by decide +kernel
theorem dX8_copies_30 : decode cX8_copies 30 = .ok (.iinc 3 1, 3) := by decide +kernel
theorem dX8_copies_33 : decode cX8_copies 33 = .ok (.goto (-31), 3) := by decide +kernel
theorem dX8_copies_36 : decode cX8_copies 36 = .ok (.return_, 1) := by decide +kernel
theorem lq_X8_known_0 {w : Cond} (h : w ∈ ([.fieldLink RX8 118 "WinterWalkModel" "acts" "I", .methodLink RX8 114 yX8_copies, .instanceMethod yX8_copies, .selects RX8 yX8_copies yX8_copies, .initialized RX8, .code yX8_copies cX8_copies 4 none, .fieldLink RX8 7 "WinterWalkModel" "slot" "[I"] : List Cond)) : w ∈ wsX8_known := List.mem_cons_of_mem _ (List.mem_append_left _ (h))
theorem lt_X8_known_X8 : ∀ w ∈ wsX80, w ∈ wsX8_known := fun _ h => List.mem_cons_of_mem _ (List.mem_append_right _ (h))
set_option maxRecDepth 20000 in
theorem ggX8_known_X8_copies : GoodIn wsX8_known wsX8_copies := goodIn_sub (List.forall_mem_cons.mpr ⟨lq_X8_known_0 (List.mem_of_getElem? (i := 5) rfl), (List.forall_mem_append.mpr ⟨(show ∀ w ∈ ([.fieldLink RX8 7 "WinterWalkModel" "slot" "[I"] : List Cond), w ∈ wsX8_known from List.forall_mem_cons.mpr ⟨lq_X8_known_0 (List.mem_of_getElem? (i := 6) rfl), fun _ h => absurd h List.not_mem_nil⟩), lt_X8_known_X8⟩)⟩) (by decide +kernel)
set_option maxRecDepth 20000 in
theorem gX8_known_X8_copies : GoodIn wsX8_known (wsV RX8 114 RX8 yX8_copies wsX8_copies) := goodIn_app (goodIn_sub (List.forall_mem_cons.mpr ⟨lq_X8_known_0 (List.mem_of_getElem? (i := 1) rfl), List.forall_mem_cons.mpr ⟨lq_X8_known_0 (List.mem_of_getElem? (i := 2) rfl), List.forall_mem_cons.mpr ⟨lq_X8_known_0 (List.mem_of_getElem? (i := 3) rfl), List.forall_mem_cons.mpr ⟨lq_X8_known_0 (List.mem_of_getElem? (i := 4) rfl), fun _ h => absurd h List.not_mem_nil⟩⟩⟩⟩) (by decide +kernel)) ggX8_known_X8_copies
theorem dX8_known_0 : decode cX8_known 0 = .ok (.aload_n 0, 1) := by decide +kernel
theorem dX8_known_1 : decode cX8_known 1 = .ok (.getfield 118, 3) := by decide +kernel
theorem dX8_known_4 : decode cX8_known 4 = .ok (.bipush 24, 2) := by decide +kernel
theorem dX8_known_6 : decode cX8_known 6 = .ok (.if_icmp .ne 39, 3) := by decide +kernel
theorem dX8_known_9 : decode cX8_known 9 = .ok (.iconst 0, 1) := by decide +kernel
theorem dX8_known_10 : decode cX8_known 10 = .ok (.istore_n 1, 1) := by decide +kernel
theorem dX8_known_11 : decode cX8_known 11 = .ok (.iload_n 1, 1) := by decide +kernel
theorem dX8_known_12 : decode cX8_known 12 = .ok (.bipush 23, 2) := by decide +kernel
theorem dX8_known_14 : decode cX8_known 14 = .ok (.if_icmp .ge 21, 3) := by decide +kernel
theorem dX8_known_17 : decode cX8_known 17 = .ok (.aload_n 0, 1) := by decide +kernel
theorem dX8_known_18 : decode cX8_known 18 = .ok (.iconst 3, 1) := by decide +kernel
theorem dX8_known_19 : decode cX8_known 19 = .ok (.iload_n 1, 1) := by decide +kernel
theorem dX8_known_20 : decode cX8_known 20 = .ok (.iadd, 1) := by decide +kernel
theorem dX8_known_21 : decode cX8_known 21 = .ok (.iconst 1, 1) := by decide +kernel
theorem dX8_known_22 : decode cX8_known 22 = .ok (.iadd, 1) := by decide +kernel
theorem dX8_known_23 : decode cX8_known 23 = .ok (.iconst 3, 1) := by decide +kernel
theorem dX8_known_24 : decode cX8_known 24 = .ok (.iload_n 1, 1) := by decide +kernel
theorem dX8_known_25 : decode cX8_known 25 = .ok (.iadd, 1) := by decide +kernel
theorem dX8_known_26 : decode cX8_known 26 = .ok (.invokevirtual 114, 3) := by decide +kernel
theorem dX8_known_29 : decode cX8_known 29 = .ok (.iinc 1 1, 3) := by decide +kernel
theorem dX8_known_32 : decode cX8_known 32 = .ok (.goto (-21), 3) := by decide +kernel
theorem dX8_known_35 : decode cX8_known 35 = .ok (.aload_n 0, 1) := by decide +kernel
theorem dX8_known_36 : decode cX8_known 36 = .ok (.dup, 1) := by decide +kernel
theorem dX8_known_37 : decode cX8_known 37 = .ok (.getfield 118, 3) := by decide +kernel
theorem dX8_known_40 : decode cX8_known 40 = .ok (.iconst 1, 1) := by decide +kernel
theorem dX8_known_41 : decode cX8_known 41 = .ok (.isub, 1) := by decide +kernel
theorem dX8_known_42 : decode cX8_known 42 = .ok (.putfield 118, 3) := by decide +kernel
theorem dX8_known_45 : decode cX8_known 45 = .ok (.aload_n 0, 1) := by decide +kernel
theorem dX8_known_46 : decode cX8_known 46 = .ok (.iconst 0, 1) := by decide +kernel
theorem dX8_known_47 : decode cX8_known 47 = .ok (.iconst 3, 1) := by decide +kernel
theorem dX8_known_48 : decode cX8_known 48 = .ok (.aload_n 0, 1) := by decide +kernel
theorem dX8_known_49 : decode cX8_known 49 = .ok (.getfield 118, 3) := by decide +kernel
theorem dX8_known_52 : decode cX8_known 52 = .ok (.iadd, 1) := by decide +kernel
theorem dX8_known_53 : decode cX8_known 53 = .ok (.invokevirtual 114, 3) := by decide +kernel
theorem dX8_known_56 : decode cX8_known 56 = .ok (.aload_n 0, 1) := by decide +kernel
theorem dX8_known_57 : decode cX8_known 57 = .ok (.dup, 1) := by decide +kernel
theorem dX8_known_58 : decode cX8_known 58 = .ok (.getfield 118, 3) := by decide +kernel
theorem dX8_known_61 : decode cX8_known 61 = .ok (.iconst 1, 1) := by decide +kernel
theorem dX8_known_62 : decode cX8_known 62 = .ok (.iadd, 1) := by decide +kernel
theorem dX8_known_63 : decode cX8_known 63 = .ok (.putfield 118, 3) := by decide +kernel
theorem dX8_known_66 : decode cX8_known 66 = .ok (.return_, 1) := by decide +kernel
theorem lq_X8_undo_0 {w : Cond} (h : w ∈ ([.fieldLink RX8 118 "WinterWalkModel" "acts" "I", .constant RX8 121 (-1000002), .methodLink RX8 114 yX8_copies, .instanceMethod yX8_copies, .selects RX8 yX8_copies yX8_copies, .initialized RX8, .code yX8_copies cX8_copies 4 none, .fieldLink RX8 7 "WinterWalkModel" "slot" "[I"] : List Cond)) : w ∈ wsX8_undo := List.mem_cons_of_mem _ (List.mem_append_left _ (h))
theorem lt_X8_undo_X8 : ∀ w ∈ wsX80, w ∈ wsX8_undo := fun _ h => List.mem_cons_of_mem _ (List.mem_append_right _ (h))
set_option maxRecDepth 20000 in
theorem ggX8_undo_X8_copies : GoodIn wsX8_undo wsX8_copies := goodIn_sub (List.forall_mem_cons.mpr ⟨lq_X8_undo_0 (List.mem_of_getElem? (i := 6) rfl), (List.forall_mem_append.mpr ⟨(show ∀ w ∈ ([.fieldLink RX8 7 "WinterWalkModel" "slot" "[I"] : List Cond), w ∈ wsX8_undo from List.forall_mem_cons.mpr ⟨lq_X8_undo_0 (List.mem_of_getElem? (i := 7) rfl), fun _ h => absurd h List.not_mem_nil⟩), lt_X8_undo_X8⟩)⟩) (by decide +kernel)
set_option maxRecDepth 20000 in
theorem gX8_undo_X8_copies : GoodIn wsX8_undo (wsV RX8 114 RX8 yX8_copies wsX8_copies) := goodIn_app (goodIn_sub (List.forall_mem_cons.mpr ⟨lq_X8_undo_0 (List.mem_of_getElem? (i := 2) rfl), List.forall_mem_cons.mpr ⟨lq_X8_undo_0 (List.mem_of_getElem? (i := 3) rfl), List.forall_mem_cons.mpr ⟨lq_X8_undo_0 (List.mem_of_getElem? (i := 4) rfl), List.forall_mem_cons.mpr ⟨lq_X8_undo_0 (List.mem_of_getElem? (i := 5) rfl), fun _ h => absurd h List.not_mem_nil⟩⟩⟩⟩) (by decide +kernel)) ggX8_undo_X8_copies
theorem dX8_undo_0 : decode cX8_undo 0 = .ok (.aload_n 0, 1) := by decide +kernel
theorem dX8_undo_1 : decode cX8_undo 1 = .ok (.getfield 118, 3) := by decide +kernel
theorem dX8_undo_4 : decode cX8_undo 4 = .ok (.ifCond .ne 6, 3) := by decide +kernel
theorem dX8_undo_7 : decode cX8_undo 7 = .ok (.ldc 121, 2) := by decide +kernel
theorem dX8_undo_9 : decode cX8_undo 9 = .ok (.ireturn, 1) := by decide +kernel
theorem dX8_undo_10 : decode cX8_undo 10 = .ok (.aload_n 0, 1) := by decide +kernel
theorem dX8_undo_11 : decode cX8_undo 11 = .ok (.dup, 1) := by decide +kernel
theorem dX8_undo_12 : decode cX8_undo 12 = .ok (.getfield 118, 3) := by decide +kernel
theorem dX8_undo_15 : decode cX8_undo 15 = .ok (.iconst 1, 1) := by decide +kernel
theorem dX8_undo_16 : decode cX8_undo 16 = .ok (.isub, 1) := by decide +kernel
theorem dX8_undo_17 : decode cX8_undo 17 = .ok (.putfield 118, 3) := by decide +kernel
theorem dX8_undo_20 : decode cX8_undo 20 = .ok (.aload_n 0, 1) := by decide +kernel
theorem dX8_undo_21 : decode cX8_undo 21 = .ok (.iconst 3, 1) := by decide +kernel
theorem dX8_undo_22 : decode cX8_undo 22 = .ok (.aload_n 0, 1) := by decide +kernel
theorem dX8_undo_23 : decode cX8_undo 23 = .ok (.getfield 118, 3) := by decide +kernel
theorem dX8_undo_26 : decode cX8_undo 26 = .ok (.iadd, 1) := by decide +kernel
theorem dX8_undo_27 : decode cX8_undo 27 = .ok (.iconst 0, 1) := by decide +kernel
theorem dX8_undo_28 : decode cX8_undo 28 = .ok (.invokevirtual 114, 3) := by decide +kernel
theorem dX8_undo_31 : decode cX8_undo 31 = .ok (.aload_n 0, 1) := by decide +kernel
theorem dX8_undo_32 : decode cX8_undo 32 = .ok (.getfield 118, 3) := by decide +kernel
theorem dX8_undo_35 : decode cX8_undo 35 = .ok (.ireturn, 1) := by decide +kernel
theorem lq_X8_isVillageThere_0 {w : Cond} (h : w ∈ ([.fieldLink RX8 7 "WinterWalkModel" "slot" "[I", .methodLink RX8 42 yX8_in, .static yX8_in, .initialized RX8, .code yX8_in cX8_in 6 (some .boolean)] : List Cond)) : w ∈ wsX8_isVillageThere := List.mem_cons_of_mem _ (List.mem_append_left _ (h))
theorem lt_X8_isVillageThere_X8 : ∀ w ∈ wsX80, w ∈ wsX8_isVillageThere := fun _ h => List.mem_cons_of_mem _ (List.mem_append_right _ (h))
set_option maxRecDepth 20000 in
theorem ggX8_isVillageThere_X8_in : GoodIn wsX8_isVillageThere wsX8_in := goodIn_sub (List.forall_mem_cons.mpr ⟨lq_X8_isVillageThere_0 (List.mem_of_getElem? (i := 4) rfl), (show ∀ w ∈ ([] : List Cond), w ∈ wsX8_isVillageThere from fun _ h => absurd h List.not_mem_nil)⟩) (by decide +kernel)
set_option maxRecDepth 20000 in
theorem gX8_isVillageThere_X8_in : GoodIn wsX8_isVillageThere (va_wsS RX8 42 yX8_in wsX8_in) := goodIn_app (goodIn_sub (List.forall_mem_cons.mpr ⟨lq_X8_isVillageThere_0 (List.mem_of_getElem? (i := 1) rfl), List.forall_mem_cons.mpr ⟨lq_X8_isVillageThere_0 (List.mem_of_getElem? (i := 2) rfl), List.forall_mem_cons.mpr ⟨lq_X8_isVillageThere_0 (List.mem_of_getElem? (i := 3) rfl), fun _ h => absurd h List.not_mem_nil⟩⟩⟩) (by decide +kernel)) ggX8_isVillageThere_X8_in
theorem dX8_isVillageThere_0 : decode cX8_isVillageThere 0 = .ok (.iload_n 1, 1) := by decide +kernel
theorem dX8_isVillageThere_1 : decode cX8_isVillageThere 1 = .ok (.i2l, 1) := by decide +kernel
theorem dX8_isVillageThere_2 : decode cX8_isVillageThere 2 = .ok (.lconst 0, 1) := by decide +kernel
theorem dX8_isVillageThere_3 : decode cX8_isVillageThere 3 = .ok (.aload_n 0, 1) := by decide +kernel
theorem dX8_isVillageThere_4 : decode cX8_isVillageThere 4 = .ok (.getfield 7, 3) := by decide +kernel
theorem dX8_isVillageThere_7 : decode cX8_isVillageThere 7 = .ok (.iconst 1, 1) := by decide +kernel
theorem dX8_isVillageThere_8 : decode cX8_isVillageThere 8 = .ok (.iaload, 1) := by decide +kernel
theorem dX8_isVillageThere_9 : decode cX8_isVillageThere 9 = .ok (.iconst 1, 1) := by decide +kernel
theorem dX8_isVillageThere_10 : decode cX8_isVillageThere 10 = .ok (.isub, 1) := by decide +kernel
theorem dX8_isVillageThere_11 : decode cX8_isVillageThere 11 = .ok (.i2l, 1) := by decide +kernel
theorem dX8_isVillageThere_12 : decode cX8_isVillageThere 12 = .ok (.invokestatic 42, 3) := by decide +kernel
theorem dX8_isVillageThere_15 : decode cX8_isVillageThere 15 = .ok (.ireturn, 1) := by decide +kernel
theorem lq_X8_isWalkerThere_0 {w : Cond} (h : w ∈ ([.fieldLink RX8 7 "WinterWalkModel" "slot" "[I", .methodLink RX8 42 yX8_in, .static yX8_in, .initialized RX8, .code yX8_in cX8_in 6 (some .boolean)] : List Cond)) : w ∈ wsX8_isWalkerThere := List.mem_cons_of_mem _ (List.mem_append_left _ (h))
theorem lt_X8_isWalkerThere_X8 : ∀ w ∈ wsX80, w ∈ wsX8_isWalkerThere := fun _ h => List.mem_cons_of_mem _ (List.mem_append_right _ (h))
set_option maxRecDepth 20000 in
theorem ggX8_isWalkerThere_X8_in : GoodIn wsX8_isWalkerThere wsX8_in := goodIn_sub (List.forall_mem_cons.mpr ⟨lq_X8_isWalkerThere_0 (List.mem_of_getElem? (i := 4) rfl), (show ∀ w ∈ ([] : List Cond), w ∈ wsX8_isWalkerThere from fun _ h => absurd h List.not_mem_nil)⟩) (by decide +kernel)
set_option maxRecDepth 20000 in
theorem gX8_isWalkerThere_X8_in : GoodIn wsX8_isWalkerThere (va_wsS RX8 42 yX8_in wsX8_in) := goodIn_app (goodIn_sub (List.forall_mem_cons.mpr ⟨lq_X8_isWalkerThere_0 (List.mem_of_getElem? (i := 1) rfl), List.forall_mem_cons.mpr ⟨lq_X8_isWalkerThere_0 (List.mem_of_getElem? (i := 2) rfl), List.forall_mem_cons.mpr ⟨lq_X8_isWalkerThere_0 (List.mem_of_getElem? (i := 3) rfl), fun _ h => absurd h List.not_mem_nil⟩⟩⟩) (by decide +kernel)) ggX8_isWalkerThere_X8_in
theorem dX8_isWalkerThere_0 : decode cX8_isWalkerThere 0 = .ok (.iload_n 1, 1) := by decide +kernel
theorem dX8_isWalkerThere_1 : decode cX8_isWalkerThere 1 = .ok (.i2l, 1) := by decide +kernel
theorem dX8_isWalkerThere_2 : decode cX8_isWalkerThere 2 = .ok (.lconst 0, 1) := by decide +kernel
theorem dX8_isWalkerThere_3 : decode cX8_isWalkerThere 3 = .ok (.aload_n 0, 1) := by decide +kernel
theorem dX8_isWalkerThere_4 : decode cX8_isWalkerThere 4 = .ok (.getfield 7, 3) := by decide +kernel
theorem dX8_isWalkerThere_7 : decode cX8_isWalkerThere 7 = .ok (.iconst 2, 1) := by decide +kernel
theorem dX8_isWalkerThere_8 : decode cX8_isWalkerThere 8 = .ok (.iaload, 1) := by decide +kernel
theorem dX8_isWalkerThere_9 : decode cX8_isWalkerThere 9 = .ok (.iconst 1, 1) := by decide +kernel
theorem dX8_isWalkerThere_10 : decode cX8_isWalkerThere 10 = .ok (.isub, 1) := by decide +kernel
theorem dX8_isWalkerThere_11 : decode cX8_isWalkerThere 11 = .ok (.i2l, 1) := by decide +kernel
theorem dX8_isWalkerThere_12 : decode cX8_isWalkerThere 12 = .ok (.invokestatic 42, 3) := by decide +kernel
theorem dX8_isWalkerThere_15 : decode cX8_isWalkerThere 15 = .ok (.ireturn, 1) := by decide +kernel
theorem dX8_open_0 : decode cX8_open 0 = .ok (.aload_n 0, 1) := by decide +kernel
theorem dX8_open_1 : decode cX8_open 1 = .ok (.getfield 7, 3) := by decide +kernel
theorem dX8_open_4 : decode cX8_open 4 = .ok (.iload_n 1, 1) := by decide +kernel
theorem dX8_open_5 : decode cX8_open 5 = .ok (.bipush 57, 2) := by decide +kernel
theorem dX8_open_7 : decode cX8_open 7 = .ok (.imul, 1) := by decide +kernel
theorem dX8_open_8 : decode cX8_open 8 = .ok (.bipush 12, 2) := by decide +kernel
theorem dX8_open_10 : decode cX8_open 10 = .ok (.iadd, 1) := by decide +kernel
theorem dX8_open_11 : decode cX8_open 11 = .ok (.iload_n 2, 1) := by decide +kernel
theorem dX8_open_12 : decode cX8_open 12 = .ok (.iadd, 1) := by decide +kernel
theorem dX8_open_13 : decode cX8_open 13 = .ok (.iaload, 1) := by decide +kernel
theorem dX8_open_14 : decode cX8_open 14 = .ok (.aload_n 0, 1) := by decide +kernel
theorem dX8_open_15 : decode cX8_open 15 = .ok (.getfield 7, 3) := by decide +kernel
theorem dX8_open_18 : decode cX8_open 18 = .ok (.iload_n 1, 1) := by decide +kernel
theorem dX8_open_19 : decode cX8_open 19 = .ok (.bipush 57, 2) := by decide +kernel
theorem dX8_open_21 : decode cX8_open 21 = .ok (.imul, 1) := by decide +kernel
theorem dX8_open_22 : decode cX8_open 22 = .ok (.bipush 31, 2) := by decide +kernel
theorem dX8_open_24 : decode cX8_open 24 = .ok (.iadd, 1) := by decide +kernel
theorem dX8_open_25 : decode cX8_open 25 = .ok (.iaload, 1) := by decide +kernel
theorem dX8_open_26 : decode cX8_open 26 = .ok (.iconst (-1), 1) := by decide +kernel
theorem dX8_open_27 : decode cX8_open 27 = .ok (.ixor, 1) := by decide +kernel
theorem dX8_open_28 : decode cX8_open 28 = .ok (.iand, 1) := by decide +kernel
theorem dX8_open_29 : decode cX8_open 29 = .ok (.ireturn, 1) := by decide +kernel
theorem lq_X8_dearest_0 {w : Cond} (h : w ∈ ([.fieldLink RX8 7 "WinterWalkModel" "slot" "[I", .methodLink RX8 93 yX8_has, .static yX8_has, .initialized RX8, .code yX8_has cX8_has 2 (some .boolean)] : List Cond)) : w ∈ wsX8_dearest := List.mem_cons_of_mem _ (List.mem_append_left _ (h))
theorem lt_X8_dearest_X8 : ∀ w ∈ wsX80, w ∈ wsX8_dearest := fun _ h => List.mem_cons_of_mem _ (List.mem_append_right _ (h))
set_option maxRecDepth 20000 in
theorem ggX8_dearest_X8_has : GoodIn wsX8_dearest wsX8_has := goodIn_sub (List.forall_mem_cons.mpr ⟨lq_X8_dearest_0 (List.mem_of_getElem? (i := 4) rfl), (show ∀ w ∈ ([] : List Cond), w ∈ wsX8_dearest from fun _ h => absurd h List.not_mem_nil)⟩) (by decide +kernel)
set_option maxRecDepth 20000 in
theorem gX8_dearest_X8_has : GoodIn wsX8_dearest (va_wsS RX8 93 yX8_has wsX8_has) := goodIn_app (goodIn_sub (List.forall_mem_cons.mpr ⟨lq_X8_dearest_0 (List.mem_of_getElem? (i := 1) rfl), List.forall_mem_cons.mpr ⟨lq_X8_dearest_0 (List.mem_of_getElem? (i := 2) rfl), List.forall_mem_cons.mpr ⟨lq_X8_dearest_0 (List.mem_of_getElem? (i := 3) rfl), fun _ h => absurd h List.not_mem_nil⟩⟩⟩) (by decide +kernel)) ggX8_dearest_X8_has
theorem dX8_dearest_0 : decode cX8_dearest 0 = .ok (.iconst (-1), 1) := by decide +kernel
theorem dX8_dearest_1 : decode cX8_dearest 1 = .ok (.istore 4, 2) := by decide +kernel
theorem dX8_dearest_3 : decode cX8_dearest 3 = .ok (.iconst 0, 1) := by decide +kernel
theorem dX8_dearest_4 : decode cX8_dearest 4 = .ok (.istore 5, 2) := by decide +kernel
theorem dX8_dearest_6 : decode cX8_dearest 6 = .ok (.iload 5, 2) := by decide +kernel
theorem dX8_dearest_8 : decode cX8_dearest 8 = .ok (.bipush 8, 2) := by decide +kernel
theorem dX8_dearest_10 : decode cX8_dearest 10 = .ok (.if_icmp .ge 65, 3) := by decide +kernel
theorem dX8_dearest_13 : decode cX8_dearest 13 = .ok (.iload_n 2, 1) := by decide +kernel
theorem dX8_dearest_14 : decode cX8_dearest 14 = .ok (.iload 5, 2) := by decide +kernel
theorem dX8_dearest_16 : decode cX8_dearest 16 = .ok (.invokestatic 93, 3) := by decide +kernel
theorem dX8_dearest_19 : decode cX8_dearest 19 = .ok (.ifCond .eq 46, 3) := by decide +kernel
theorem dX8_dearest_22 : decode cX8_dearest 22 = .ok (.iload 4, 2) := by decide +kernel
theorem dX8_dearest_24 : decode cX8_dearest 24 = .ok (.ifCond .lt 36, 3) := by decide +kernel
theorem dX8_dearest_27 : decode cX8_dearest 27 = .ok (.aload_n 0, 1) := by decide +kernel
theorem dX8_dearest_28 : decode cX8_dearest 28 = .ok (.getfield 7, 3) := by decide +kernel
theorem dX8_dearest_31 : decode cX8_dearest 31 = .ok (.iload_n 1, 1) := by decide +kernel
theorem dX8_dearest_32 : decode cX8_dearest 32 = .ok (.bipush 57, 2) := by decide +kernel
theorem dX8_dearest_34 : decode cX8_dearest 34 = .ok (.imul, 1) := by decide +kernel
theorem dX8_dearest_35 : decode cX8_dearest 35 = .ok (.bipush 23, 2) := by decide +kernel
theorem dX8_dearest_37 : decode cX8_dearest 37 = .ok (.iadd, 1) := by decide +kernel
theorem dX8_dearest_38 : decode cX8_dearest 38 = .ok (.iload 5, 2) := by decide +kernel
theorem dX8_dearest_40 : decode cX8_dearest 40 = .ok (.iadd, 1) := by decide +kernel
theorem dX8_dearest_41 : decode cX8_dearest 41 = .ok (.iaload, 1) := by decide +kernel
theorem dX8_dearest_42 : decode cX8_dearest 42 = .ok (.aload_n 0, 1) := by decide +kernel
theorem dX8_dearest_43 : decode cX8_dearest 43 = .ok (.getfield 7, 3) := by decide +kernel
theorem dX8_dearest_46 : decode cX8_dearest 46 = .ok (.iload_n 1, 1) := by decide +kernel
theorem dX8_dearest_47 : decode cX8_dearest 47 = .ok (.bipush 57, 2) := by decide +kernel
theorem dX8_dearest_49 : decode cX8_dearest 49 = .ok (.imul, 1) := by decide +kernel
theorem dX8_dearest_50 : decode cX8_dearest 50 = .ok (.bipush 23, 2) := by decide +kernel
theorem dX8_dearest_52 : decode cX8_dearest 52 = .ok (.iadd, 1) := by decide +kernel
theorem dX8_dearest_53 : decode cX8_dearest 53 = .ok (.iload 4, 2) := by decide +kernel
theorem dX8_dearest_55 : decode cX8_dearest 55 = .ok (.iadd, 1) := by decide +kernel
theorem dX8_dearest_56 : decode cX8_dearest 56 = .ok (.iaload, 1) := by decide +kernel
theorem dX8_dearest_57 : decode cX8_dearest 57 = .ok (.if_icmp .le 8, 3) := by decide +kernel
theorem dX8_dearest_60 : decode cX8_dearest 60 = .ok (.iload 5, 2) := by decide +kernel
theorem dX8_dearest_62 : decode cX8_dearest 62 = .ok (.goto 5, 3) := by decide +kernel
theorem dX8_dearest_65 : decode cX8_dearest 65 = .ok (.iload 4, 2) := by decide +kernel
theorem dX8_dearest_67 : decode cX8_dearest 67 = .ok (.istore 4, 2) := by decide +kernel
theorem dX8_dearest_69 : decode cX8_dearest 69 = .ok (.iinc 5 1, 3) := by decide +kernel
theorem dX8_dearest_72 : decode cX8_dearest 72 = .ok (.goto (-66), 3) := by decide +kernel
theorem dX8_dearest_75 : decode cX8_dearest 75 = .ok (.iload 4, 2) := by decide +kernel
theorem dX8_dearest_77 : decode cX8_dearest 77 = .ok (.ifCond .ge 7, 3) := by decide +kernel
theorem dX8_dearest_80 : decode cX8_dearest 80 = .ok (.iload_n 3, 1) := by decide +kernel
theorem dX8_dearest_81 : decode cX8_dearest 81 = .ok (.goto 5, 3) := by decide +kernel
theorem dX8_dearest_84 : decode cX8_dearest 84 = .ok (.iload 4, 2) := by decide +kernel
theorem dX8_dearest_86 : decode cX8_dearest 86 = .ok (.ireturn, 1) := by decide +kernel
theorem lq_X8_rarest_0 {w : Cond} (h : w ∈ ([.fieldLink RX8 7 "WinterWalkModel" "slot" "[I", .methodLink RX8 122 yX8_open, .instanceMethod yX8_open, .selects RX8 yX8_open yX8_open, .initialized RX8, .code yX8_open cX8_open 3 (some .int), .methodLink RX8 93 yX8_has, .static yX8_has, .code yX8_has cX8_has 2 (some .boolean)] : List Cond)) : w ∈ wsX8_rarest := List.mem_cons_of_mem _ (List.mem_append_left _ (h))
theorem lt_X8_rarest_X8 : ∀ w ∈ wsX80, w ∈ wsX8_rarest := fun _ h => List.mem_cons_of_mem _ (List.mem_append_right _ (h))
set_option maxRecDepth 20000 in
theorem ggX8_rarest_X8_open : GoodIn wsX8_rarest wsX8_open := goodIn_sub (List.forall_mem_cons.mpr ⟨lq_X8_rarest_0 (List.mem_of_getElem? (i := 5) rfl), (List.forall_mem_append.mpr ⟨(show ∀ w ∈ ([.fieldLink RX8 7 "WinterWalkModel" "slot" "[I"] : List Cond), w ∈ wsX8_rarest from List.forall_mem_cons.mpr ⟨lq_X8_rarest_0 (List.mem_of_getElem? (i := 0) rfl), fun _ h => absurd h List.not_mem_nil⟩), lt_X8_rarest_X8⟩)⟩) (by decide +kernel)
set_option maxRecDepth 20000 in
theorem gX8_rarest_X8_open : GoodIn wsX8_rarest (wsV RX8 122 RX8 yX8_open wsX8_open) := goodIn_app (goodIn_sub (List.forall_mem_cons.mpr ⟨lq_X8_rarest_0 (List.mem_of_getElem? (i := 1) rfl), List.forall_mem_cons.mpr ⟨lq_X8_rarest_0 (List.mem_of_getElem? (i := 2) rfl), List.forall_mem_cons.mpr ⟨lq_X8_rarest_0 (List.mem_of_getElem? (i := 3) rfl), List.forall_mem_cons.mpr ⟨lq_X8_rarest_0 (List.mem_of_getElem? (i := 4) rfl), fun _ h => absurd h List.not_mem_nil⟩⟩⟩⟩) (by decide +kernel)) ggX8_rarest_X8_open
set_option maxRecDepth 20000 in
theorem ggX8_rarest_X8_has : GoodIn wsX8_rarest wsX8_has := goodIn_sub (List.forall_mem_cons.mpr ⟨lq_X8_rarest_0 (List.mem_of_getElem? (i := 8) rfl), (show ∀ w ∈ ([] : List Cond), w ∈ wsX8_rarest from fun _ h => absurd h List.not_mem_nil)⟩) (by decide +kernel)
set_option maxRecDepth 20000 in
theorem gX8_rarest_X8_has : GoodIn wsX8_rarest (va_wsS RX8 93 yX8_has wsX8_has) := goodIn_app (goodIn_sub (List.forall_mem_cons.mpr ⟨lq_X8_rarest_0 (List.mem_of_getElem? (i := 6) rfl), List.forall_mem_cons.mpr ⟨lq_X8_rarest_0 (List.mem_of_getElem? (i := 7) rfl), List.forall_mem_cons.mpr ⟨lq_X8_rarest_0 (List.mem_of_getElem? (i := 4) rfl), fun _ h => absurd h List.not_mem_nil⟩⟩⟩) (by decide +kernel)) ggX8_rarest_X8_has
theorem dX8_rarest_0 : decode cX8_rarest 0 = .ok (.aload_n 0, 1) := by decide +kernel
theorem dX8_rarest_1 : decode cX8_rarest 1 = .ok (.iload_n 1, 1) := by decide +kernel
theorem dX8_rarest_2 : decode cX8_rarest 2 = .ok (.iload_n 2, 1) := by decide +kernel
theorem dX8_rarest_3 : decode cX8_rarest 3 = .ok (.invokevirtual 122, 3) := by decide +kernel
theorem dX8_rarest_6 : decode cX8_rarest 6 = .ok (.istore_n 3, 1) := by decide +kernel
theorem dX8_rarest_7 : decode cX8_rarest 7 = .ok (.iconst (-1), 1) := by decide +kernel
theorem dX8_rarest_8 : decode cX8_rarest 8 = .ok (.istore 4, 2) := by decide +kernel
theorem dX8_rarest_10 : decode cX8_rarest 10 = .ok (.iconst 0, 1) := by decide +kernel
theorem dX8_rarest_11 : decode cX8_rarest 11 = .ok (.istore 5, 2) := by decide +kernel
theorem dX8_rarest_13 : decode cX8_rarest 13 = .ok (.iload 5, 2) := by decide +kernel
theorem dX8_rarest_15 : decode cX8_rarest 15 = .ok (.bipush 8, 2) := by decide +kernel
theorem dX8_rarest_17 : decode cX8_rarest 17 = .ok (.if_icmp .ge 65, 3) := by decide +kernel
theorem dX8_rarest_20 : decode cX8_rarest 20 = .ok (.iload_n 3, 1) := by decide +kernel
theorem dX8_rarest_21 : decode cX8_rarest 21 = .ok (.iload 5, 2) := by decide +kernel
theorem dX8_rarest_23 : decode cX8_rarest 23 = .ok (.invokestatic 93, 3) := by decide +kernel
theorem dX8_rarest_26 : decode cX8_rarest 26 = .ok (.ifCond .eq 46, 3) := by decide +kernel
theorem dX8_rarest_29 : decode cX8_rarest 29 = .ok (.iload 4, 2) := by decide +kernel
theorem dX8_rarest_31 : decode cX8_rarest 31 = .ok (.ifCond .lt 36, 3) := by decide +kernel
theorem dX8_rarest_34 : decode cX8_rarest 34 = .ok (.aload_n 0, 1) := by decide +kernel
theorem dX8_rarest_35 : decode cX8_rarest 35 = .ok (.getfield 7, 3) := by decide +kernel
theorem dX8_rarest_38 : decode cX8_rarest 38 = .ok (.iload_n 1, 1) := by decide +kernel
theorem dX8_rarest_39 : decode cX8_rarest 39 = .ok (.bipush 57, 2) := by decide +kernel
theorem dX8_rarest_41 : decode cX8_rarest 41 = .ok (.imul, 1) := by decide +kernel
theorem dX8_rarest_42 : decode cX8_rarest 42 = .ok (.bipush 40, 2) := by decide +kernel
theorem dX8_rarest_44 : decode cX8_rarest 44 = .ok (.iadd, 1) := by decide +kernel
theorem dX8_rarest_45 : decode cX8_rarest 45 = .ok (.iload 5, 2) := by decide +kernel
theorem dX8_rarest_47 : decode cX8_rarest 47 = .ok (.iadd, 1) := by decide +kernel
theorem dX8_rarest_48 : decode cX8_rarest 48 = .ok (.iaload, 1) := by decide +kernel
theorem dX8_rarest_49 : decode cX8_rarest 49 = .ok (.aload_n 0, 1) := by decide +kernel
theorem dX8_rarest_50 : decode cX8_rarest 50 = .ok (.getfield 7, 3) := by decide +kernel
theorem dX8_rarest_53 : decode cX8_rarest 53 = .ok (.iload_n 1, 1) := by decide +kernel
theorem dX8_rarest_54 : decode cX8_rarest 54 = .ok (.bipush 57, 2) := by decide +kernel
theorem dX8_rarest_56 : decode cX8_rarest 56 = .ok (.imul, 1) := by decide +kernel
theorem dX8_rarest_57 : decode cX8_rarest 57 = .ok (.bipush 40, 2) := by decide +kernel
theorem dX8_rarest_59 : decode cX8_rarest 59 = .ok (.iadd, 1) := by decide +kernel
theorem dX8_rarest_60 : decode cX8_rarest 60 = .ok (.iload 4, 2) := by decide +kernel
theorem dX8_rarest_62 : decode cX8_rarest 62 = .ok (.iadd, 1) := by decide +kernel
theorem dX8_rarest_63 : decode cX8_rarest 63 = .ok (.iaload, 1) := by decide +kernel
theorem dX8_rarest_64 : decode cX8_rarest 64 = .ok (.if_icmp .ge 8, 3) := by decide +kernel
theorem dX8_rarest_67 : decode cX8_rarest 67 = .ok (.iload 5, 2) := by decide +kernel
theorem dX8_rarest_69 : decode cX8_rarest 69 = .ok (.goto 5, 3) := by decide +kernel
theorem dX8_rarest_72 : decode cX8_rarest 72 = .ok (.iload 4, 2) := by decide +kernel
theorem dX8_rarest_74 : decode cX8_rarest 74 = .ok (.istore 4, 2) := by decide +kernel
theorem dX8_rarest_76 : decode cX8_rarest 76 = .ok (.iinc 5 1, 3) := by decide +kernel
theorem dX8_rarest_79 : decode cX8_rarest 79 = .ok (.goto (-66), 3) := by decide +kernel
theorem dX8_rarest_82 : decode cX8_rarest 82 = .ok (.iload 4, 2) := by decide +kernel
theorem dX8_rarest_84 : decode cX8_rarest 84 = .ok (.ifCond .ge 7, 3) := by decide +kernel
theorem dX8_rarest_87 : decode cX8_rarest 87 = .ok (.iload_n 2, 1) := by decide +kernel
theorem dX8_rarest_88 : decode cX8_rarest 88 = .ok (.goto 5, 3) := by decide +kernel
theorem dX8_rarest_91 : decode cX8_rarest 91 = .ok (.iload 4, 2) := by decide +kernel
theorem dX8_rarest_93 : decode cX8_rarest 93 = .ok (.ireturn, 1) := by decide +kernel
theorem lq_X8_goesTo_0 {w : Cond} (h : w ∈ ([.fieldLink RX8 7 "WinterWalkModel" "slot" "[I", .methodLink RX8 122 yX8_open, .instanceMethod yX8_open, .selects RX8 yX8_open yX8_open, .initialized RX8, .code yX8_open cX8_open 3 (some .int), .methodLink RX8 126 yX8_dearest, .instanceMethod yX8_dearest, .selects RX8 yX8_dearest yX8_dearest, .code yX8_dearest cX8_dearest 6 (some .int), .methodLink RX8 93 yX8_has, .static yX8_has, .code yX8_has cX8_has 2 (some .boolean), .methodLink RX8 130 yX8_rarest, .instanceMethod yX8_rarest, .selects RX8 yX8_rarest yX8_rarest, .code yX8_rarest cX8_rarest 6 (some .int)] : List Cond)) : w ∈ wsX8_goesTo := List.mem_cons_of_mem _ (List.mem_append_left _ (h))
theorem lt_X8_goesTo_X8 : ∀ w ∈ wsX80, w ∈ wsX8_goesTo := fun _ h => List.mem_cons_of_mem _ (List.mem_append_right _ (h))
set_option maxRecDepth 20000 in
theorem ggX8_goesTo_X8_open : GoodIn wsX8_goesTo wsX8_open := goodIn_sub (List.forall_mem_cons.mpr ⟨lq_X8_goesTo_0 (List.mem_of_getElem? (i := 5) rfl), (List.forall_mem_append.mpr ⟨(show ∀ w ∈ ([.fieldLink RX8 7 "WinterWalkModel" "slot" "[I"] : List Cond), w ∈ wsX8_goesTo from List.forall_mem_cons.mpr ⟨lq_X8_goesTo_0 (List.mem_of_getElem? (i := 0) rfl), fun _ h => absurd h List.not_mem_nil⟩), lt_X8_goesTo_X8⟩)⟩) (by decide +kernel)
set_option maxRecDepth 20000 in
theorem gX8_goesTo_X8_open : GoodIn wsX8_goesTo (wsV RX8 122 RX8 yX8_open wsX8_open) := goodIn_app (goodIn_sub (List.forall_mem_cons.mpr ⟨lq_X8_goesTo_0 (List.mem_of_getElem? (i := 1) rfl), List.forall_mem_cons.mpr ⟨lq_X8_goesTo_0 (List.mem_of_getElem? (i := 2) rfl), List.forall_mem_cons.mpr ⟨lq_X8_goesTo_0 (List.mem_of_getElem? (i := 3) rfl), List.forall_mem_cons.mpr ⟨lq_X8_goesTo_0 (List.mem_of_getElem? (i := 4) rfl), fun _ h => absurd h List.not_mem_nil⟩⟩⟩⟩) (by decide +kernel)) ggX8_goesTo_X8_open
set_option maxRecDepth 20000 in
theorem ggX8_goesTo_X8_dearest : GoodIn wsX8_goesTo wsX8_dearest := goodIn_sub (List.forall_mem_cons.mpr ⟨lq_X8_goesTo_0 (List.mem_of_getElem? (i := 9) rfl), (List.forall_mem_append.mpr ⟨(show ∀ w ∈ ([.fieldLink RX8 7 "WinterWalkModel" "slot" "[I", .methodLink RX8 93 yX8_has, .static yX8_has, .initialized RX8, .code yX8_has cX8_has 2 (some .boolean)] : List Cond), w ∈ wsX8_goesTo from List.forall_mem_cons.mpr ⟨lq_X8_goesTo_0 (List.mem_of_getElem? (i := 0) rfl), List.forall_mem_cons.mpr ⟨lq_X8_goesTo_0 (List.mem_of_getElem? (i := 10) rfl), List.forall_mem_cons.mpr ⟨lq_X8_goesTo_0 (List.mem_of_getElem? (i := 11) rfl), List.forall_mem_cons.mpr ⟨lq_X8_goesTo_0 (List.mem_of_getElem? (i := 4) rfl), List.forall_mem_cons.mpr ⟨lq_X8_goesTo_0 (List.mem_of_getElem? (i := 12) rfl), fun _ h => absurd h List.not_mem_nil⟩⟩⟩⟩⟩), lt_X8_goesTo_X8⟩)⟩) (by decide +kernel)
set_option maxRecDepth 20000 in
theorem gX8_goesTo_X8_dearest : GoodIn wsX8_goesTo (wsV RX8 126 RX8 yX8_dearest wsX8_dearest) := goodIn_app (goodIn_sub (List.forall_mem_cons.mpr ⟨lq_X8_goesTo_0 (List.mem_of_getElem? (i := 6) rfl), List.forall_mem_cons.mpr ⟨lq_X8_goesTo_0 (List.mem_of_getElem? (i := 7) rfl), List.forall_mem_cons.mpr ⟨lq_X8_goesTo_0 (List.mem_of_getElem? (i := 8) rfl), List.forall_mem_cons.mpr ⟨lq_X8_goesTo_0 (List.mem_of_getElem? (i := 4) rfl), fun _ h => absurd h List.not_mem_nil⟩⟩⟩⟩) (by decide +kernel)) ggX8_goesTo_X8_dearest
set_option maxRecDepth 20000 in
theorem ggX8_goesTo_X8_rarest : GoodIn wsX8_goesTo wsX8_rarest := goodIn_sub (List.forall_mem_cons.mpr ⟨lq_X8_goesTo_0 (List.mem_of_getElem? (i := 16) rfl), (List.forall_mem_append.mpr ⟨(show ∀ w ∈ ([.fieldLink RX8 7 "WinterWalkModel" "slot" "[I", .methodLink RX8 122 yX8_open, .instanceMethod yX8_open, .selects RX8 yX8_open yX8_open, .initialized RX8, .code yX8_open cX8_open 3 (some .int), .methodLink RX8 93 yX8_has, .static yX8_has, .code yX8_has cX8_has 2 (some .boolean)] : List Cond), w ∈ wsX8_goesTo from List.forall_mem_cons.mpr ⟨lq_X8_goesTo_0 (List.mem_of_getElem? (i := 0) rfl), List.forall_mem_cons.mpr ⟨lq_X8_goesTo_0 (List.mem_of_getElem? (i := 1) rfl), List.forall_mem_cons.mpr ⟨lq_X8_goesTo_0 (List.mem_of_getElem? (i := 2) rfl), List.forall_mem_cons.mpr ⟨lq_X8_goesTo_0 (List.mem_of_getElem? (i := 3) rfl), List.forall_mem_cons.mpr ⟨lq_X8_goesTo_0 (List.mem_of_getElem? (i := 4) rfl), List.forall_mem_cons.mpr ⟨lq_X8_goesTo_0 (List.mem_of_getElem? (i := 5) rfl), List.forall_mem_cons.mpr ⟨lq_X8_goesTo_0 (List.mem_of_getElem? (i := 10) rfl), List.forall_mem_cons.mpr ⟨lq_X8_goesTo_0 (List.mem_of_getElem? (i := 11) rfl), List.forall_mem_cons.mpr ⟨lq_X8_goesTo_0 (List.mem_of_getElem? (i := 12) rfl), fun _ h => absurd h List.not_mem_nil⟩⟩⟩⟩⟩⟩⟩⟩⟩), lt_X8_goesTo_X8⟩)⟩) (by decide +kernel)
set_option maxRecDepth 20000 in
theorem gX8_goesTo_X8_rarest : GoodIn wsX8_goesTo (wsV RX8 130 RX8 yX8_rarest wsX8_rarest) := goodIn_app (goodIn_sub (List.forall_mem_cons.mpr ⟨lq_X8_goesTo_0 (List.mem_of_getElem? (i := 13) rfl), List.forall_mem_cons.mpr ⟨lq_X8_goesTo_0 (List.mem_of_getElem? (i := 14) rfl), List.forall_mem_cons.mpr ⟨lq_X8_goesTo_0 (List.mem_of_getElem? (i := 15) rfl), List.forall_mem_cons.mpr ⟨lq_X8_goesTo_0 (List.mem_of_getElem? (i := 4) rfl), fun _ h => absurd h List.not_mem_nil⟩⟩⟩⟩) (by decide +kernel)) ggX8_goesTo_X8_rarest
theorem dX8_goesTo_0 : decode cX8_goesTo 0 = .ok (.aload_n 0, 1) := by decide +kernel
theorem dX8_goesTo_1 : decode cX8_goesTo 1 = .ok (.getfield 7, 3) := by decide +kernel
theorem dX8_goesTo_4 : decode cX8_goesTo 4 = .ok (.iload_n 1, 1) := by decide +kernel
theorem dX8_goesTo_5 : decode cX8_goesTo 5 = .ok (.bipush 57, 2) := by decide +kernel
theorem dX8_goesTo_7 : decode cX8_goesTo 7 = .ok (.imul, 1) := by decide +kernel
theorem dX8_goesTo_8 : decode cX8_goesTo 8 = .ok (.bipush 48, 2) := by decide +kernel
theorem dX8_goesTo_10 : decode cX8_goesTo 10 = .ok (.iadd, 1) := by decide +kernel
theorem dX8_goesTo_11 : decode cX8_goesTo 11 = .ok (.iload_n 2, 1) := by decide +kernel
theorem dX8_goesTo_12 : decode cX8_goesTo 12 = .ok (.iadd, 1) := by decide +kernel
theorem dX8_goesTo_13 : decode cX8_goesTo 13 = .ok (.iaload, 1) := by decide +kernel
theorem dX8_goesTo_14 : decode cX8_goesTo 14 = .ok (.istore_n 3, 1) := by decide +kernel
theorem dX8_goesTo_15 : decode cX8_goesTo 15 = .ok (.aload_n 0, 1) := by decide +kernel
theorem dX8_goesTo_16 : decode cX8_goesTo 16 = .ok (.getfield 7, 3) := by decide +kernel
theorem dX8_goesTo_19 : decode cX8_goesTo 19 = .ok (.iload_n 1, 1) := by decide +kernel
theorem dX8_goesTo_20 : decode cX8_goesTo 20 = .ok (.bipush 57, 2) := by decide +kernel
theorem dX8_goesTo_22 : decode cX8_goesTo 22 = .ok (.imul, 1) := by decide +kernel
theorem dX8_goesTo_23 : decode cX8_goesTo 23 = .ok (.bipush 51, 2) := by decide +kernel
theorem dX8_goesTo_25 : decode cX8_goesTo 25 = .ok (.iadd, 1) := by decide +kernel
theorem dX8_goesTo_26 : decode cX8_goesTo 26 = .ok (.iload_n 2, 1) := by decide +kernel
theorem dX8_goesTo_27 : decode cX8_goesTo 27 = .ok (.iadd, 1) := by decide +kernel
theorem dX8_goesTo_28 : decode cX8_goesTo 28 = .ok (.iaload, 1) := by decide +kernel
theorem dX8_goesTo_29 : decode cX8_goesTo 29 = .ok (.istore 4, 2) := by decide +kernel
theorem dX8_goesTo_31 : decode cX8_goesTo 31 = .ok (.aload_n 0, 1) := by decide +kernel
theorem dX8_goesTo_32 : decode cX8_goesTo 32 = .ok (.iload_n 1, 1) := by decide +kernel
theorem dX8_goesTo_33 : decode cX8_goesTo 33 = .ok (.iload_n 3, 1) := by decide +kernel
theorem dX8_goesTo_34 : decode cX8_goesTo 34 = .ok (.invokevirtual 122, 3) := by decide +kernel
theorem dX8_goesTo_37 : decode cX8_goesTo 37 = .ok (.istore 5, 2) := by decide +kernel
theorem dX8_goesTo_39 : decode cX8_goesTo 39 = .ok (.aload_n 0, 1) := by decide +kernel
theorem dX8_goesTo_40 : decode cX8_goesTo 40 = .ok (.getfield 7, 3) := by decide +kernel
theorem dX8_goesTo_43 : decode cX8_goesTo 43 = .ok (.iload_n 1, 1) := by decide +kernel
theorem dX8_goesTo_44 : decode cX8_goesTo 44 = .ok (.bipush 57, 2) := by decide +kernel
theorem dX8_goesTo_46 : decode cX8_goesTo 46 = .ok (.imul, 1) := by decide +kernel
theorem dX8_goesTo_47 : decode cX8_goesTo 47 = .ok (.bipush 20, 2) := by decide +kernel
theorem dX8_goesTo_49 : decode cX8_goesTo 49 = .ok (.iadd, 1) := by decide +kernel
theorem dX8_goesTo_50 : decode cX8_goesTo 50 = .ok (.iload_n 2, 1) := by decide +kernel
theorem dX8_goesTo_51 : decode cX8_goesTo 51 = .ok (.iadd, 1) := by decide +kernel
theorem dX8_goesTo_52 : decode cX8_goesTo 52 = .ok (.iaload, 1) := by decide +kernel
theorem dX8_goesTo_53 : decode cX8_goesTo 53 = .ok (.tableswitch 118 1 4 #[31, 40, 71, 111], 31) := by decide +kernel
theorem dX8_goesTo_84 : decode cX8_goesTo 84 = .ok (.aload_n 0, 1) := by decide +kernel
theorem dX8_goesTo_85 : decode cX8_goesTo 85 = .ok (.iload_n 1, 1) := by decide +kernel
theorem dX8_goesTo_86 : decode cX8_goesTo 86 = .ok (.iload 5, 2) := by decide +kernel
theorem dX8_goesTo_88 : decode cX8_goesTo 88 = .ok (.iload_n 3, 1) := by decide +kernel
theorem dX8_goesTo_89 : decode cX8_goesTo 89 = .ok (.invokevirtual 126, 3) := by decide +kernel
theorem dX8_goesTo_92 : decode cX8_goesTo 92 = .ok (.ireturn, 1) := by decide +kernel
theorem dX8_goesTo_93 : decode cX8_goesTo 93 = .ok (.aload_n 0, 1) := by decide +kernel
theorem dX8_goesTo_94 : decode cX8_goesTo 94 = .ok (.getfield 7, 3) := by decide +kernel
theorem dX8_goesTo_97 : decode cX8_goesTo 97 = .ok (.iload_n 1, 1) := by decide +kernel
theorem dX8_goesTo_98 : decode cX8_goesTo 98 = .ok (.bipush 57, 2) := by decide +kernel
theorem dX8_goesTo_100 : decode cX8_goesTo 100 = .ok (.imul, 1) := by decide +kernel
theorem dX8_goesTo_101 : decode cX8_goesTo 101 = .ok (.bipush 54, 2) := by decide +kernel
theorem dX8_goesTo_103 : decode cX8_goesTo 103 = .ok (.iadd, 1) := by decide +kernel
theorem dX8_goesTo_104 : decode cX8_goesTo 104 = .ok (.iaload, 1) := by decide +kernel
theorem dX8_goesTo_105 : decode cX8_goesTo 105 = .ok (.iconst 3, 1) := by decide +kernel
theorem dX8_goesTo_106 : decode cX8_goesTo 106 = .ok (.irem, 1) := by decide +kernel
theorem dX8_goesTo_107 : decode cX8_goesTo 107 = .ok (.iconst 2, 1) := by decide +kernel
theorem dX8_goesTo_108 : decode cX8_goesTo 108 = .ok (.if_icmp .ne 7, 3) := by decide +kernel
theorem dX8_goesTo_111 : decode cX8_goesTo 111 = .ok (.iload_n 3, 1) := by decide +kernel
theorem dX8_goesTo_112 : decode cX8_goesTo 112 = .ok (.goto 11, 3) := by decide +kernel
theorem dX8_goesTo_115 : decode cX8_goesTo 115 = .ok (.aload_n 0, 1) := by decide +kernel
theorem dX8_goesTo_116 : decode cX8_goesTo 116 = .ok (.iload_n 1, 1) := by decide +kernel
theorem dX8_goesTo_117 : decode cX8_goesTo 117 = .ok (.iload 5, 2) := by decide +kernel
theorem dX8_goesTo_119 : decode cX8_goesTo 119 = .ok (.iload_n 3, 1) := by decide +kernel
theorem dX8_goesTo_120 : decode cX8_goesTo 120 = .ok (.invokevirtual 126, 3) := by decide +kernel
theorem dX8_goesTo_123 : decode cX8_goesTo 123 = .ok (.ireturn, 1) := by decide +kernel
theorem dX8_goesTo_124 : decode cX8_goesTo 124 = .ok (.iload 4, 2) := by decide +kernel
theorem dX8_goesTo_126 : decode cX8_goesTo 126 = .ok (.ifCond .ge 8, 3) := by decide +kernel
theorem dX8_goesTo_129 : decode cX8_goesTo 129 = .ok (.iload 5, 2) := by decide +kernel
theorem dX8_goesTo_131 : decode cX8_goesTo 131 = .ok (.goto 12, 3) := by decide +kernel
theorem dX8_goesTo_134 : decode cX8_goesTo 134 = .ok (.iload 5, 2) := by decide +kernel
theorem dX8_goesTo_136 : decode cX8_goesTo 136 = .ok (.iconst 1, 1) := by decide +kernel
theorem dX8_goesTo_137 : decode cX8_goesTo 137 = .ok (.iload 4, 2) := by decide +kernel
theorem dX8_goesTo_139 : decode cX8_goesTo 139 = .ok (.ishl, 1) := by decide +kernel
theorem dX8_goesTo_140 : decode cX8_goesTo 140 = .ok (.iconst (-1), 1) := by decide +kernel
theorem dX8_goesTo_141 : decode cX8_goesTo 141 = .ok (.ixor, 1) := by decide +kernel
theorem dX8_goesTo_142 : decode cX8_goesTo 142 = .ok (.iand, 1) := by decide +kernel
theorem dX8_goesTo_143 : decode cX8_goesTo 143 = .ok (.istore 6, 2) := by decide +kernel
theorem dX8_goesTo_145 : decode cX8_goesTo 145 = .ok (.aload_n 0, 1) := by decide +kernel
theorem dX8_goesTo_146 : decode cX8_goesTo 146 = .ok (.iload_n 1, 1) := by decide +kernel
theorem dX8_goesTo_147 : decode cX8_goesTo 147 = .ok (.iload 6, 2) := by decide +kernel
theorem dX8_goesTo_149 : decode cX8_goesTo 149 = .ok (.ifCond .ne 8, 3) := by decide +kernel
theorem dX8_goesTo_152 : decode cX8_goesTo 152 = .ok (.iload 5, 2) := by decide +kernel
theorem dX8_goesTo_154 : decode cX8_goesTo 154 = .ok (.goto 5, 3) := by decide +kernel
theorem dX8_goesTo_157 : decode cX8_goesTo 157 = .ok (.iload 6, 2) := by decide +kernel
theorem dX8_goesTo_159 : decode cX8_goesTo 159 = .ok (.iload_n 3, 1) := by decide +kernel
theorem dX8_goesTo_160 : decode cX8_goesTo 160 = .ok (.invokevirtual 126, 3) := by decide +kernel
theorem dX8_goesTo_163 : decode cX8_goesTo 163 = .ok (.ireturn, 1) := by decide +kernel
theorem dX8_goesTo_164 : decode cX8_goesTo 164 = .ok (.aload_n 0, 1) := by decide +kernel
theorem dX8_goesTo_165 : decode cX8_goesTo 165 = .ok (.iload_n 1, 1) := by decide +kernel
theorem dX8_goesTo_166 : decode cX8_goesTo 166 = .ok (.iload_n 3, 1) := by decide +kernel
theorem dX8_goesTo_167 : decode cX8_goesTo 167 = .ok (.invokevirtual 130, 3) := by decide +kernel
theorem dX8_goesTo_170 : decode cX8_goesTo 170 = .ok (.ireturn, 1) := by decide +kernel
theorem dX8_goesTo_171 : decode cX8_goesTo 171 = .ok (.aload_n 0, 1) := by decide +kernel
theorem dX8_goesTo_172 : decode cX8_goesTo 172 = .ok (.iload_n 1, 1) := by decide +kernel
theorem dX8_goesTo_173 : decode cX8_goesTo 173 = .ok (.aload_n 0, 1) := by decide +kernel
theorem dX8_goesTo_174 : decode cX8_goesTo 174 = .ok (.iload_n 1, 1) := by decide +kernel
theorem dX8_goesTo_175 : decode cX8_goesTo 175 = .ok (.iload_n 3, 1) := by decide +kernel
theorem dX8_goesTo_176 : decode cX8_goesTo 176 = .ok (.invokevirtual 130, 3) := by decide +kernel
theorem dX8_goesTo_179 : decode cX8_goesTo 179 = .ok (.invokevirtual 130, 3) := by decide +kernel
theorem dX8_goesTo_182 : decode cX8_goesTo 182 = .ok (.ireturn, 1) := by decide +kernel
theorem lq_X8_walks_0 {w : Cond} (h : w ∈ ([.fieldLink RX8 7 "WinterWalkModel" "slot" "[I", .methodLink RX8 133 yX8_goesTo, .instanceMethod yX8_goesTo, .selects RX8 yX8_goesTo yX8_goesTo, .initialized RX8, .code yX8_goesTo cX8_goesTo 7 (some .int), .methodLink RX8 122 yX8_open, .instanceMethod yX8_open, .selects RX8 yX8_open yX8_open, .code yX8_open cX8_open 3 (some .int), .methodLink RX8 126 yX8_dearest, .instanceMethod yX8_dearest, .selects RX8 yX8_dearest yX8_dearest, .code yX8_dearest cX8_dearest 6 (some .int), .methodLink RX8 93 yX8_has, .static yX8_has, .code yX8_has cX8_has 2 (some .boolean), .methodLink RX8 130 yX8_rarest, .instanceMethod yX8_rarest, .selects RX8 yX8_rarest yX8_rarest, .code yX8_rarest cX8_rarest 6 (some .int)] : List Cond)) : w ∈ wsX8_walks := List.mem_cons_of_mem _ (List.mem_append_left _ (h))
theorem lt_X8_walks_X8 : ∀ w ∈ wsX80, w ∈ wsX8_walks := fun _ h => List.mem_cons_of_mem _ (List.mem_append_right _ (h))
set_option maxRecDepth 20000 in
theorem ggX8_walks_X8_goesTo : GoodIn wsX8_walks wsX8_goesTo := goodIn_sub (List.forall_mem_cons.mpr ⟨lq_X8_walks_0 (List.mem_of_getElem? (i := 5) rfl), (List.forall_mem_append.mpr ⟨(show ∀ w ∈ ([.fieldLink RX8 7 "WinterWalkModel" "slot" "[I", .methodLink RX8 122 yX8_open, .instanceMethod yX8_open, .selects RX8 yX8_open yX8_open, .initialized RX8, .code yX8_open cX8_open 3 (some .int), .methodLink RX8 126 yX8_dearest, .instanceMethod yX8_dearest, .selects RX8 yX8_dearest yX8_dearest, .code yX8_dearest cX8_dearest 6 (some .int), .methodLink RX8 93 yX8_has, .static yX8_has, .code yX8_has cX8_has 2 (some .boolean), .methodLink RX8 130 yX8_rarest, .instanceMethod yX8_rarest, .selects RX8 yX8_rarest yX8_rarest, .code yX8_rarest cX8_rarest 6 (some .int)] : List Cond), w ∈ wsX8_walks from List.forall_mem_cons.mpr ⟨lq_X8_walks_0 (List.mem_of_getElem? (i := 0) rfl), List.forall_mem_cons.mpr ⟨lq_X8_walks_0 (List.mem_of_getElem? (i := 6) rfl), List.forall_mem_cons.mpr ⟨lq_X8_walks_0 (List.mem_of_getElem? (i := 7) rfl), List.forall_mem_cons.mpr ⟨lq_X8_walks_0 (List.mem_of_getElem? (i := 8) rfl), List.forall_mem_cons.mpr ⟨lq_X8_walks_0 (List.mem_of_getElem? (i := 4) rfl), List.forall_mem_cons.mpr ⟨lq_X8_walks_0 (List.mem_of_getElem? (i := 9) rfl), List.forall_mem_cons.mpr ⟨lq_X8_walks_0 (List.mem_of_getElem? (i := 10) rfl), List.forall_mem_cons.mpr ⟨lq_X8_walks_0 (List.mem_of_getElem? (i := 11) rfl), List.forall_mem_cons.mpr ⟨lq_X8_walks_0 (List.mem_of_getElem? (i := 12) rfl), List.forall_mem_cons.mpr ⟨lq_X8_walks_0 (List.mem_of_getElem? (i := 13) rfl), List.forall_mem_cons.mpr ⟨lq_X8_walks_0 (List.mem_of_getElem? (i := 14) rfl), List.forall_mem_cons.mpr ⟨lq_X8_walks_0 (List.mem_of_getElem? (i := 15) rfl), List.forall_mem_cons.mpr ⟨lq_X8_walks_0 (List.mem_of_getElem? (i := 16) rfl), List.forall_mem_cons.mpr ⟨lq_X8_walks_0 (List.mem_of_getElem? (i := 17) rfl), List.forall_mem_cons.mpr ⟨lq_X8_walks_0 (List.mem_of_getElem? (i := 18) rfl), List.forall_mem_cons.mpr ⟨lq_X8_walks_0 (List.mem_of_getElem? (i := 19) rfl), List.forall_mem_cons.mpr ⟨lq_X8_walks_0 (List.mem_of_getElem? (i := 20) rfl), fun _ h => absurd h List.not_mem_nil⟩⟩⟩⟩⟩⟩⟩⟩⟩⟩⟩⟩⟩⟩⟩⟩⟩), lt_X8_walks_X8⟩)⟩) (by decide +kernel)
set_option maxRecDepth 20000 in
theorem gX8_walks_X8_goesTo : GoodIn wsX8_walks (wsV RX8 133 RX8 yX8_goesTo wsX8_goesTo) := goodIn_app (goodIn_sub (List.forall_mem_cons.mpr ⟨lq_X8_walks_0 (List.mem_of_getElem? (i := 1) rfl), List.forall_mem_cons.mpr ⟨lq_X8_walks_0 (List.mem_of_getElem? (i := 2) rfl), List.forall_mem_cons.mpr ⟨lq_X8_walks_0 (List.mem_of_getElem? (i := 3) rfl), List.forall_mem_cons.mpr ⟨lq_X8_walks_0 (List.mem_of_getElem? (i := 4) rfl), fun _ h => absurd h List.not_mem_nil⟩⟩⟩⟩) (by decide +kernel)) ggX8_walks_X8_goesTo
set_option maxRecDepth 20000 in
theorem ggX8_walks_X8_has : GoodIn wsX8_walks wsX8_has := goodIn_sub (List.forall_mem_cons.mpr ⟨lq_X8_walks_0 (List.mem_of_getElem? (i := 16) rfl), (show ∀ w ∈ ([] : List Cond), w ∈ wsX8_walks from fun _ h => absurd h List.not_mem_nil)⟩) (by decide +kernel)
set_option maxRecDepth 20000 in
theorem gX8_walks_X8_has : GoodIn wsX8_walks (va_wsS RX8 93 yX8_has wsX8_has) := goodIn_app (goodIn_sub (List.forall_mem_cons.mpr ⟨lq_X8_walks_0 (List.mem_of_getElem? (i := 14) rfl), List.forall_mem_cons.mpr ⟨lq_X8_walks_0 (List.mem_of_getElem? (i := 15) rfl), List.forall_mem_cons.mpr ⟨lq_X8_walks_0 (List.mem_of_getElem? (i := 4) rfl), fun _ h => absurd h List.not_mem_nil⟩⟩⟩) (by decide +kernel)) ggX8_walks_X8_has
theorem dX8_walks_0 : decode cX8_walks 0 = .ok (.aload_n 0, 1) := by decide +kernel
theorem dX8_walks_1 : decode cX8_walks 1 = .ok (.getfield 7, 3) := by decide +kernel
theorem dX8_walks_4 : decode cX8_walks 4 = .ok (.iload_n 1, 1) := by decide +kernel
theorem dX8_walks_5 : decode cX8_walks 5 = .ok (.bipush 57, 2) := by decide +kernel
theorem dX8_walks_7 : decode cX8_walks 7 = .ok (.imul, 1) := by decide +kernel
theorem dX8_walks_8 : decode cX8_walks 8 = .ok (.bipush 48, 2) := by decide +kernel
theorem dX8_walks_10 : decode cX8_walks 10 = .ok (.iadd, 1) := by decide +kernel
theorem dX8_walks_11 : decode cX8_walks 11 = .ok (.iload_n 2, 1) := by decide +kernel
theorem dX8_walks_12 : decode cX8_walks 12 = .ok (.iadd, 1) := by decide +kernel
theorem dX8_walks_13 : decode cX8_walks 13 = .ok (.iaload, 1) := by decide +kernel
theorem dX8_walks_14 : decode cX8_walks 14 = .ok (.istore_n 3, 1) := by decide +kernel
theorem dX8_walks_15 : decode cX8_walks 15 = .ok (.aload_n 0, 1) := by decide +kernel
theorem dX8_walks_16 : decode cX8_walks 16 = .ok (.iload_n 1, 1) := by decide +kernel
theorem dX8_walks_17 : decode cX8_walks 17 = .ok (.iload_n 2, 1) := by decide +kernel
theorem dX8_walks_18 : decode cX8_walks 18 = .ok (.invokevirtual 133, 3) := by decide +kernel
theorem dX8_walks_21 : decode cX8_walks 21 = .ok (.istore 4, 2) := by decide +kernel
theorem dX8_walks_23 : decode cX8_walks 23 = .ok (.aload_n 0, 1) := by decide +kernel
theorem dX8_walks_24 : decode cX8_walks 24 = .ok (.getfield 7, 3) := by decide +kernel
theorem dX8_walks_27 : decode cX8_walks 27 = .ok (.iload_n 1, 1) := by decide +kernel
theorem dX8_walks_28 : decode cX8_walks 28 = .ok (.bipush 57, 2) := by decide +kernel
theorem dX8_walks_30 : decode cX8_walks 30 = .ok (.imul, 1) := by decide +kernel
theorem dX8_walks_31 : decode cX8_walks 31 = .ok (.bipush 51, 2) := by decide +kernel
theorem dX8_walks_33 : decode cX8_walks 33 = .ok (.iadd, 1) := by decide +kernel
theorem dX8_walks_34 : decode cX8_walks 34 = .ok (.iload_n 2, 1) := by decide +kernel
theorem dX8_walks_35 : decode cX8_walks 35 = .ok (.iadd, 1) := by decide +kernel
theorem dX8_walks_36 : decode cX8_walks 36 = .ok (.iload_n 3, 1) := by decide +kernel
theorem dX8_walks_37 : decode cX8_walks 37 = .ok (.iastore, 1) := by decide +kernel
theorem dX8_walks_38 : decode cX8_walks 38 = .ok (.aload_n 0, 1) := by decide +kernel
theorem dX8_walks_39 : decode cX8_walks 39 = .ok (.getfield 7, 3) := by decide +kernel
theorem dX8_walks_42 : decode cX8_walks 42 = .ok (.iload_n 1, 1) := by decide +kernel
theorem dX8_walks_43 : decode cX8_walks 43 = .ok (.bipush 57, 2) := by decide +kernel
theorem dX8_walks_45 : decode cX8_walks 45 = .ok (.imul, 1) := by decide +kernel
theorem dX8_walks_46 : decode cX8_walks 46 = .ok (.bipush 48, 2) := by decide +kernel
theorem dX8_walks_48 : decode cX8_walks 48 = .ok (.iadd, 1) := by decide +kernel
theorem dX8_walks_49 : decode cX8_walks 49 = .ok (.iload_n 2, 1) := by decide +kernel
theorem dX8_walks_50 : decode cX8_walks 50 = .ok (.iadd, 1) := by decide +kernel
theorem dX8_walks_51 : decode cX8_walks 51 = .ok (.iload 4, 2) := by decide +kernel
theorem dX8_walks_53 : decode cX8_walks 53 = .ok (.iastore, 1) := by decide +kernel
theorem dX8_walks_54 : decode cX8_walks 54 = .ok (.aload_n 0, 1) := by decide +kernel
theorem dX8_walks_55 : decode cX8_walks 55 = .ok (.getfield 7, 3) := by decide +kernel
theorem dX8_walks_58 : decode cX8_walks 58 = .ok (.iload_n 1, 1) := by decide +kernel
theorem dX8_walks_59 : decode cX8_walks 59 = .ok (.bipush 57, 2) := by decide +kernel
theorem dX8_walks_61 : decode cX8_walks 61 = .ok (.imul, 1) := by decide +kernel
theorem dX8_walks_62 : decode cX8_walks 62 = .ok (.bipush 40, 2) := by decide +kernel
theorem dX8_walks_64 : decode cX8_walks 64 = .ok (.iadd, 1) := by decide +kernel
theorem dX8_walks_65 : decode cX8_walks 65 = .ok (.iload 4, 2) := by decide +kernel
theorem dX8_walks_67 : decode cX8_walks 67 = .ok (.iadd, 1) := by decide +kernel
theorem dX8_walks_68 : decode cX8_walks 68 = .ok (.dup2, 1) := by decide +kernel
theorem dX8_walks_69 : decode cX8_walks 69 = .ok (.iaload, 1) := by decide +kernel
theorem dX8_walks_70 : decode cX8_walks 70 = .ok (.iconst 1, 1) := by decide +kernel
theorem dX8_walks_71 : decode cX8_walks 71 = .ok (.iadd, 1) := by decide +kernel
theorem dX8_walks_72 : decode cX8_walks 72 = .ok (.iastore, 1) := by decide +kernel
theorem dX8_walks_73 : decode cX8_walks 73 = .ok (.aload_n 0, 1) := by decide +kernel
theorem dX8_walks_74 : decode cX8_walks 74 = .ok (.getfield 7, 3) := by decide +kernel
theorem dX8_walks_77 : decode cX8_walks 77 = .ok (.iload_n 1, 1) := by decide +kernel
theorem dX8_walks_78 : decode cX8_walks 78 = .ok (.bipush 57, 2) := by decide +kernel
theorem dX8_walks_80 : decode cX8_walks 80 = .ok (.imul, 1) := by decide +kernel
theorem dX8_walks_81 : decode cX8_walks 81 = .ok (.bipush 32, 2) := by decide +kernel
theorem dX8_walks_83 : decode cX8_walks 83 = .ok (.iadd, 1) := by decide +kernel
theorem dX8_walks_84 : decode cX8_walks 84 = .ok (.iload 4, 2) := by decide +kernel
theorem dX8_walks_86 : decode cX8_walks 86 = .ok (.iadd, 1) := by decide +kernel
theorem dX8_walks_87 : decode cX8_walks 87 = .ok (.aload_n 0, 1) := by decide +kernel
theorem dX8_walks_88 : decode cX8_walks 88 = .ok (.getfield 7, 3) := by decide +kernel
theorem dX8_walks_91 : decode cX8_walks 91 = .ok (.iload_n 1, 1) := by decide +kernel
theorem dX8_walks_92 : decode cX8_walks 92 = .ok (.bipush 57, 2) := by decide +kernel
theorem dX8_walks_94 : decode cX8_walks 94 = .ok (.imul, 1) := by decide +kernel
theorem dX8_walks_95 : decode cX8_walks 95 = .ok (.iconst 0, 1) := by decide +kernel
theorem dX8_walks_96 : decode cX8_walks 96 = .ok (.iadd, 1) := by decide +kernel
theorem dX8_walks_97 : decode cX8_walks 97 = .ok (.iaload, 1) := by decide +kernel
theorem dX8_walks_98 : decode cX8_walks 98 = .ok (.iastore, 1) := by decide +kernel
theorem dX8_walks_99 : decode cX8_walks 99 = .ok (.iconst 0, 1) := by decide +kernel
theorem dX8_walks_100 : decode cX8_walks 100 = .ok (.istore 5, 2) := by decide +kernel
theorem dX8_walks_102 : decode cX8_walks 102 = .ok (.iload 5, 2) := by decide +kernel
theorem dX8_walks_104 : decode cX8_walks 104 = .ok (.bipush 8, 2) := by decide +kernel
theorem dX8_walks_106 : decode cX8_walks 106 = .ok (.if_icmp .ge 97, 3) := by decide +kernel
theorem dX8_walks_109 : decode cX8_walks 109 = .ok (.aload_n 0, 1) := by decide +kernel
theorem dX8_walks_110 : decode cX8_walks 110 = .ok (.getfield 7, 3) := by decide +kernel
theorem dX8_walks_113 : decode cX8_walks 113 = .ok (.iload_n 1, 1) := by decide +kernel
theorem dX8_walks_114 : decode cX8_walks 114 = .ok (.bipush 57, 2) := by decide +kernel
theorem dX8_walks_116 : decode cX8_walks 116 = .ok (.imul, 1) := by decide +kernel
theorem dX8_walks_117 : decode cX8_walks 117 = .ok (.bipush 12, 2) := by decide +kernel
theorem dX8_walks_119 : decode cX8_walks 119 = .ok (.iadd, 1) := by decide +kernel
theorem dX8_walks_120 : decode cX8_walks 120 = .ok (.iload 4, 2) := by decide +kernel
theorem dX8_walks_122 : decode cX8_walks 122 = .ok (.iadd, 1) := by decide +kernel
theorem dX8_walks_123 : decode cX8_walks 123 = .ok (.iaload, 1) := by decide +kernel
theorem dX8_walks_124 : decode cX8_walks 124 = .ok (.iload 5, 2) := by decide +kernel
theorem dX8_walks_126 : decode cX8_walks 126 = .ok (.invokestatic 93, 3) := by decide +kernel
theorem dX8_walks_129 : decode cX8_walks 129 = .ok (.ifCond .eq 26, 3) := by decide +kernel
theorem dX8_walks_132 : decode cX8_walks 132 = .ok (.aload_n 0, 1) := by decide +kernel
theorem dX8_walks_133 : decode cX8_walks 133 = .ok (.getfield 7, 3) := by decide +kernel
theorem dX8_walks_136 : decode cX8_walks 136 = .ok (.iload_n 1, 1) := by decide +kernel
theorem dX8_walks_137 : decode cX8_walks 137 = .ok (.bipush 57, 2) := by decide +kernel
theorem dX8_walks_139 : decode cX8_walks 139 = .ok (.imul, 1) := by decide +kernel
theorem dX8_walks_140 : decode cX8_walks 140 = .ok (.bipush 32, 2) := by decide +kernel
theorem dX8_walks_142 : decode cX8_walks 142 = .ok (.iadd, 1) := by decide +kernel
theorem dX8_walks_143 : decode cX8_walks 143 = .ok (.iload 5, 2) := by decide +kernel
theorem dX8_walks_145 : decode cX8_walks 145 = .ok (.iadd, 1) := by decide +kernel
theorem dX8_walks_146 : decode cX8_walks 146 = .ok (.iaload, 1) := by decide +kernel
theorem dX8_walks_147 : decode cX8_walks 147 = .ok (.iconst 1, 1) := by decide +kernel
theorem dX8_walks_148 : decode cX8_walks 148 = .ok (.if_icmp .ge 7, 3) := by decide +kernel
theorem dX8_walks_151 : decode cX8_walks 151 = .ok (.iconst 1, 1) := by decide +kernel
theorem dX8_walks_152 : decode cX8_walks 152 = .ok (.goto 4, 3) := by decide +kernel
theorem dX8_walks_155 : decode cX8_walks 155 = .ok (.iconst 0, 1) := by decide +kernel
theorem dX8_walks_156 : decode cX8_walks 156 = .ok (.istore 6, 2) := by decide +kernel
theorem dX8_walks_158 : decode cX8_walks 158 = .ok (.aload_n 0, 1) := by decide +kernel
theorem dX8_walks_159 : decode cX8_walks 159 = .ok (.getfield 7, 3) := by decide +kernel
theorem dX8_walks_162 : decode cX8_walks 162 = .ok (.iload_n 1, 1) := by decide +kernel
theorem dX8_walks_163 : decode cX8_walks 163 = .ok (.bipush 57, 2) := by decide +kernel
theorem dX8_walks_165 : decode cX8_walks 165 = .ok (.imul, 1) := by decide +kernel
theorem dX8_walks_166 : decode cX8_walks 166 = .ok (.bipush 32, 2) := by decide +kernel
theorem dX8_walks_168 : decode cX8_walks 168 = .ok (.iadd, 1) := by decide +kernel
theorem dX8_walks_169 : decode cX8_walks 169 = .ok (.iload 5, 2) := by decide +kernel
theorem dX8_walks_171 : decode cX8_walks 171 = .ok (.iadd, 1) := by decide +kernel
theorem dX8_walks_172 : decode cX8_walks 172 = .ok (.iload 6, 2) := by decide +kernel
theorem dX8_walks_174 : decode cX8_walks 174 = .ok (.ifCond .eq 7, 3) := by decide +kernel
theorem dX8_walks_177 : decode cX8_walks 177 = .ok (.iconst 1, 1) := by decide +kernel
theorem dX8_walks_178 : decode cX8_walks 178 = .ok (.goto 18, 3) := by decide +kernel
theorem dX8_walks_181 : decode cX8_walks 181 = .ok (.aload_n 0, 1) := by decide +kernel
theorem dX8_walks_182 : decode cX8_walks 182 = .ok (.getfield 7, 3) := by decide +kernel
theorem dX8_walks_185 : decode cX8_walks 185 = .ok (.iload_n 1, 1) := by decide +kernel
theorem dX8_walks_186 : decode cX8_walks 186 = .ok (.bipush 57, 2) := by decide +kernel
theorem dX8_walks_188 : decode cX8_walks 188 = .ok (.imul, 1) := by decide +kernel
theorem dX8_walks_189 : decode cX8_walks 189 = .ok (.bipush 32, 2) := by decide +kernel
theorem dX8_walks_191 : decode cX8_walks 191 = .ok (.iadd, 1) := by decide +kernel
theorem dX8_walks_192 : decode cX8_walks 192 = .ok (.iload 5, 2) := by decide +kernel
theorem dX8_walks_194 : decode cX8_walks 194 = .ok (.iadd, 1) := by decide +kernel
theorem dX8_walks_195 : decode cX8_walks 195 = .ok (.iaload, 1) := by decide +kernel
theorem dX8_walks_196 : decode cX8_walks 196 = .ok (.iastore, 1) := by decide +kernel
theorem dX8_walks_197 : decode cX8_walks 197 = .ok (.iinc 5 1, 3) := by decide +kernel
theorem dX8_walks_200 : decode cX8_walks 200 = .ok (.goto (-98), 3) := by decide +kernel
theorem dX8_walks_203 : decode cX8_walks 203 = .ok (.aload_n 0, 1) := by decide +kernel
theorem dX8_walks_204 : decode cX8_walks 204 = .ok (.getfield 7, 3) := by decide +kernel
theorem dX8_walks_207 : decode cX8_walks 207 = .ok (.iload_n 1, 1) := by decide +kernel
theorem dX8_walks_208 : decode cX8_walks 208 = .ok (.bipush 57, 2) := by decide +kernel
theorem dX8_walks_210 : decode cX8_walks 210 = .ok (.imul, 1) := by decide +kernel
theorem dX8_walks_211 : decode cX8_walks 211 = .ok (.bipush 55, 2) := by decide +kernel
theorem dX8_walks_213 : decode cX8_walks 213 = .ok (.iadd, 1) := by decide +kernel
theorem dX8_walks_214 : decode cX8_walks 214 = .ok (.dup2, 1) := by decide +kernel
theorem dX8_walks_215 : decode cX8_walks 215 = .ok (.iaload, 1) := by decide +kernel
theorem dX8_walks_216 : decode cX8_walks 216 = .ok (.aload_n 0, 1) := by decide +kernel
theorem dX8_walks_217 : decode cX8_walks 217 = .ok (.getfield 7, 3) := by decide +kernel
theorem dX8_walks_220 : decode cX8_walks 220 = .ok (.iload_n 1, 1) := by decide +kernel
theorem dX8_walks_221 : decode cX8_walks 221 = .ok (.bipush 57, 2) := by decide +kernel
theorem dX8_walks_223 : decode cX8_walks 223 = .ok (.imul, 1) := by decide +kernel
theorem dX8_walks_224 : decode cX8_walks 224 = .ok (.iconst 4, 1) := by decide +kernel
theorem dX8_walks_225 : decode cX8_walks 225 = .ok (.iadd, 1) := by decide +kernel
theorem dX8_walks_226 : decode cX8_walks 226 = .ok (.iload 4, 2) := by decide +kernel
theorem dX8_walks_228 : decode cX8_walks 228 = .ok (.iadd, 1) := by decide +kernel
theorem dX8_walks_229 : decode cX8_walks 229 = .ok (.iaload, 1) := by decide +kernel
theorem dX8_walks_230 : decode cX8_walks 230 = .ok (.iadd, 1) := by decide +kernel
theorem dX8_walks_231 : decode cX8_walks 231 = .ok (.iastore, 1) := by decide +kernel
theorem dX8_walks_232 : decode cX8_walks 232 = .ok (.aload_n 0, 1) := by decide +kernel
theorem dX8_walks_233 : decode cX8_walks 233 = .ok (.getfield 7, 3) := by decide +kernel
theorem dX8_walks_236 : decode cX8_walks 236 = .ok (.iload_n 1, 1) := by decide +kernel
theorem dX8_walks_237 : decode cX8_walks 237 = .ok (.bipush 57, 2) := by decide +kernel
theorem dX8_walks_239 : decode cX8_walks 239 = .ok (.imul, 1) := by decide +kernel
theorem dX8_walks_240 : decode cX8_walks 240 = .ok (.bipush 56, 2) := by decide +kernel
theorem dX8_walks_242 : decode cX8_walks 242 = .ok (.iadd, 1) := by decide +kernel
theorem dX8_walks_243 : decode cX8_walks 243 = .ok (.dup2, 1) := by decide +kernel
theorem dX8_walks_244 : decode cX8_walks 244 = .ok (.iaload, 1) := by decide +kernel
theorem dX8_walks_245 : decode cX8_walks 245 = .ok (.aload_n 0, 1) := by decide +kernel
theorem dX8_walks_246 : decode cX8_walks 246 = .ok (.getfield 7, 3) := by decide +kernel
theorem dX8_walks_249 : decode cX8_walks 249 = .ok (.iload_n 1, 1) := by decide +kernel
theorem dX8_walks_250 : decode cX8_walks 250 = .ok (.bipush 57, 2) := by decide +kernel
theorem dX8_walks_252 : decode cX8_walks 252 = .ok (.imul, 1) := by decide +kernel
theorem dX8_walks_253 : decode cX8_walks 253 = .ok (.bipush 20, 2) := by decide +kernel
theorem dX8_walks_255 : decode cX8_walks 255 = .ok (.iadd, 1) := by decide +kernel
theorem dX8_walks_256 : decode cX8_walks 256 = .ok (.iload_n 2, 1) := by decide +kernel
theorem dX8_walks_257 : decode cX8_walks 257 = .ok (.iadd, 1) := by decide +kernel
theorem dX8_walks_258 : decode cX8_walks 258 = .ok (.iaload, 1) := by decide +kernel
theorem dX8_walks_259 : decode cX8_walks 259 = .ok (.iconst 4, 1) := by decide +kernel
theorem dX8_walks_260 : decode cX8_walks 260 = .ok (.if_icmp .ge 21, 3) := by decide +kernel
theorem dX8_walks_263 : decode cX8_walks 263 = .ok (.aload_n 0, 1) := by decide +kernel
theorem dX8_walks_264 : decode cX8_walks 264 = .ok (.getfield 7, 3) := by decide +kernel
theorem dX8_walks_267 : decode cX8_walks 267 = .ok (.iload_n 1, 1) := by decide +kernel
theorem dX8_walks_268 : decode cX8_walks 268 = .ok (.bipush 57, 2) := by decide +kernel
theorem dX8_walks_270 : decode cX8_walks 270 = .ok (.imul, 1) := by decide +kernel
theorem dX8_walks_271 : decode cX8_walks 271 = .ok (.bipush 23, 2) := by decide +kernel
theorem dX8_walks_273 : decode cX8_walks 273 = .ok (.iadd, 1) := by decide +kernel
theorem dX8_walks_274 : decode cX8_walks 274 = .ok (.iload 4, 2) := by decide +kernel
theorem dX8_walks_276 : decode cX8_walks 276 = .ok (.iadd, 1) := by decide +kernel
theorem dX8_walks_277 : decode cX8_walks 277 = .ok (.iaload, 1) := by decide +kernel
theorem dX8_walks_278 : decode cX8_walks 278 = .ok (.goto 4, 3) := by decide +kernel
theorem dX8_walks_281 : decode cX8_walks 281 = .ok (.iconst 0, 1) := by decide +kernel
theorem dX8_walks_282 : decode cX8_walks 282 = .ok (.iadd, 1) := by decide +kernel
theorem dX8_walks_283 : decode cX8_walks 283 = .ok (.iastore, 1) := by decide +kernel
theorem dX8_walks_284 : decode cX8_walks 284 = .ok (.return_, 1) := by decide +kernel
theorem lq_X8_day_0 {w : Cond} (h : w ∈ (wsX8_day_r1 : List Cond)) : w ∈ wsX8_day := List.mem_cons_of_mem _ (List.mem_append_left _ (List.mem_append_left _ (h)))
theorem lq_X8_day_1 {w : Cond} (h : w ∈ (wsX8_day_r2 : List Cond)) : w ∈ wsX8_day := List.mem_cons_of_mem _ (List.mem_append_left _ (List.mem_append_right _ (h)))
theorem lt_X8_day_X8 : ∀ w ∈ wsX80, w ∈ wsX8_day := fun _ h => List.mem_cons_of_mem _ (List.mem_append_right _ (h))
set_option maxRecDepth 20000 in
theorem ggX8_day_X8_walks : GoodIn wsX8_day wsX8_walks := goodIn_sub (List.forall_mem_cons.mpr ⟨lq_X8_day_0 (List.mem_of_getElem? (i := 5) rfl), (List.forall_mem_append.mpr ⟨(show ∀ w ∈ ([.fieldLink RX8 7 "WinterWalkModel" "slot" "[I", .methodLink RX8 133 yX8_goesTo, .instanceMethod yX8_goesTo, .selects RX8 yX8_goesTo yX8_goesTo, .initialized RX8, .code yX8_goesTo cX8_goesTo 7 (some .int), .methodLink RX8 122 yX8_open, .instanceMethod yX8_open, .selects RX8 yX8_open yX8_open, .code yX8_open cX8_open 3 (some .int), .methodLink RX8 126 yX8_dearest, .instanceMethod yX8_dearest, .selects RX8 yX8_dearest yX8_dearest, .code yX8_dearest cX8_dearest 6 (some .int), .methodLink RX8 93 yX8_has, .static yX8_has, .code yX8_has cX8_has 2 (some .boolean), .methodLink RX8 130 yX8_rarest, .instanceMethod yX8_rarest, .selects RX8 yX8_rarest yX8_rarest, .code yX8_rarest cX8_rarest 6 (some .int)] : List Cond), w ∈ wsX8_day from List.forall_mem_cons.mpr ⟨lq_X8_day_0 (List.mem_of_getElem? (i := 0) rfl), List.forall_mem_cons.mpr ⟨lq_X8_day_0 (List.mem_of_getElem? (i := 6) rfl), List.forall_mem_cons.mpr ⟨lq_X8_day_0 (List.mem_of_getElem? (i := 7) rfl), List.forall_mem_cons.mpr ⟨lq_X8_day_0 (List.mem_of_getElem? (i := 8) rfl), List.forall_mem_cons.mpr ⟨lq_X8_day_0 (List.mem_of_getElem? (i := 4) rfl), List.forall_mem_cons.mpr ⟨lq_X8_day_0 (List.mem_of_getElem? (i := 9) rfl), List.forall_mem_cons.mpr ⟨lq_X8_day_0 (List.mem_of_getElem? (i := 10) rfl), List.forall_mem_cons.mpr ⟨lq_X8_day_0 (List.mem_of_getElem? (i := 11) rfl), List.forall_mem_cons.mpr ⟨lq_X8_day_0 (List.mem_of_getElem? (i := 12) rfl), List.forall_mem_cons.mpr ⟨lq_X8_day_0 (List.mem_of_getElem? (i := 13) rfl), List.forall_mem_cons.mpr ⟨lq_X8_day_0 (List.mem_of_getElem? (i := 14) rfl), List.forall_mem_cons.mpr ⟨lq_X8_day_0 (List.mem_of_getElem? (i := 15) rfl), List.forall_mem_cons.mpr ⟨lq_X8_day_0 (List.mem_of_getElem? (i := 16) rfl), List.forall_mem_cons.mpr ⟨lq_X8_day_0 (List.mem_of_getElem? (i := 17) rfl), List.forall_mem_cons.mpr ⟨lq_X8_day_0 (List.mem_of_getElem? (i := 18) rfl), List.forall_mem_cons.mpr ⟨lq_X8_day_0 (List.mem_of_getElem? (i := 19) rfl), List.forall_mem_cons.mpr ⟨lq_X8_day_0 (List.mem_of_getElem? (i := 20) rfl), List.forall_mem_cons.mpr ⟨lq_X8_day_0 (List.mem_of_getElem? (i := 21) rfl), List.forall_mem_cons.mpr ⟨lq_X8_day_0 (List.mem_of_getElem? (i := 22) rfl), List.forall_mem_cons.mpr ⟨lq_X8_day_0 (List.mem_of_getElem? (i := 23) rfl), List.forall_mem_cons.mpr ⟨lq_X8_day_1 (List.mem_of_getElem? (i := 0) rfl), fun _ h => absurd h List.not_mem_nil⟩⟩⟩⟩⟩⟩⟩⟩⟩⟩⟩⟩⟩⟩⟩⟩⟩⟩⟩⟩⟩), lt_X8_day_X8⟩)⟩) (by decide +kernel)
set_option maxRecDepth 20000 in
theorem gX8_day_X8_walks : GoodIn wsX8_day (wsV RX8 136 RX8 yX8_walks wsX8_walks) := goodIn_app (goodIn_sub (List.forall_mem_cons.mpr ⟨lq_X8_day_0 (List.mem_of_getElem? (i := 1) rfl), List.forall_mem_cons.mpr ⟨lq_X8_day_0 (List.mem_of_getElem? (i := 2) rfl), List.forall_mem_cons.mpr ⟨lq_X8_day_0 (List.mem_of_getElem? (i := 3) rfl), List.forall_mem_cons.mpr ⟨lq_X8_day_0 (List.mem_of_getElem? (i := 4) rfl), fun _ h => absurd h List.not_mem_nil⟩⟩⟩⟩) (by decide +kernel)) ggX8_day_X8_walks
theorem dX8_day_0 : decode cX8_day 0 = .ok (.iconst 0, 1) := by decide +kernel
theorem dX8_day_1 : decode cX8_day 1 = .ok (.istore_n 3, 1) := by decide +kernel
theorem dX8_day_2 : decode cX8_day 2 = .ok (.iload_n 3, 1) := by decide +kernel
theorem dX8_day_3 : decode cX8_day 3 = .ok (.bipush 8, 2) := by decide +kernel
theorem dX8_day_5 : decode cX8_day 5 = .ok (.if_icmp .ge 48, 3) := by decide +kernel
theorem dX8_day_8 : decode cX8_day 8 = .ok (.aload_n 0, 1) := by decide +kernel
theorem dX8_day_9 : decode cX8_day 9 = .ok (.getfield 7, 3) := by decide +kernel
theorem dX8_day_12 : decode cX8_day 12 = .ok (.iload_n 1, 1) := by decide +kernel
theorem dX8_day_13 : decode cX8_day 13 = .ok (.bipush 57, 2) := by decide +kernel
theorem dX8_day_15 : decode cX8_day 15 = .ok (.imul, 1) := by decide +kernel
theorem dX8_day_16 : decode cX8_day 16 = .ok (.bipush 32, 2) := by decide +kernel
theorem dX8_day_18 : decode cX8_day 18 = .ok (.iadd, 1) := by decide +kernel
theorem dX8_day_19 : decode cX8_day 19 = .ok (.iload_n 3, 1) := by decide +kernel
theorem dX8_day_20 : decode cX8_day 20 = .ok (.iadd, 1) := by decide +kernel
theorem dX8_day_21 : decode cX8_day 21 = .ok (.dup2, 1) := by decide +kernel
theorem dX8_day_22 : decode cX8_day 22 = .ok (.iaload, 1) := by decide +kernel
theorem dX8_day_23 : decode cX8_day 23 = .ok (.aload_n 0, 1) := by decide +kernel
theorem dX8_day_24 : decode cX8_day 24 = .ok (.getfield 7, 3) := by decide +kernel
theorem dX8_day_27 : decode cX8_day 27 = .ok (.iload_n 1, 1) := by decide +kernel
theorem dX8_day_28 : decode cX8_day 28 = .ok (.bipush 57, 2) := by decide +kernel
theorem dX8_day_30 : decode cX8_day 30 = .ok (.imul, 1) := by decide +kernel
theorem dX8_day_31 : decode cX8_day 31 = .ok (.bipush 32, 2) := by decide +kernel
theorem dX8_day_33 : decode cX8_day 33 = .ok (.iadd, 1) := by decide +kernel
theorem dX8_day_34 : decode cX8_day 34 = .ok (.iload_n 3, 1) := by decide +kernel
theorem dX8_day_35 : decode cX8_day 35 = .ok (.iadd, 1) := by decide +kernel
theorem dX8_day_36 : decode cX8_day 36 = .ok (.iaload, 1) := by decide +kernel
theorem dX8_day_37 : decode cX8_day 37 = .ok (.ifCond .le 7, 3) := by decide +kernel
theorem dX8_day_40 : decode cX8_day 40 = .ok (.iconst 1, 1) := by decide +kernel
theorem dX8_day_41 : decode cX8_day 41 = .ok (.goto 4, 3) := by decide +kernel
theorem dX8_day_44 : decode cX8_day 44 = .ok (.iconst 0, 1) := by decide +kernel
theorem dX8_day_45 : decode cX8_day 45 = .ok (.isub, 1) := by decide +kernel
theorem dX8_day_46 : decode cX8_day 46 = .ok (.iastore, 1) := by decide +kernel
theorem dX8_day_47 : decode cX8_day 47 = .ok (.iinc 3 1, 3) := by decide +kernel
theorem dX8_day_50 : decode cX8_day 50 = .ok (.goto (-48), 3) := by decide +kernel
theorem dX8_day_53 : decode cX8_day 53 = .ok (.iconst 0, 1) := by decide +kernel
theorem dX8_day_54 : decode cX8_day 54 = .ok (.istore_n 3, 1) := by decide +kernel
theorem dX8_day_55 : decode cX8_day 55 = .ok (.iload_n 3, 1) := by decide +kernel
theorem dX8_day_56 : decode cX8_day 56 = .ok (.aload_n 0, 1) := by decide +kernel
theorem dX8_day_57 : decode cX8_day 57 = .ok (.getfield 7, 3) := by decide +kernel
theorem dX8_day_60 : decode cX8_day 60 = .ok (.iload_n 1, 1) := by decide +kernel
theorem dX8_day_61 : decode cX8_day 61 = .ok (.bipush 57, 2) := by decide +kernel
theorem dX8_day_63 : decode cX8_day 63 = .ok (.imul, 1) := by decide +kernel
theorem dX8_day_64 : decode cX8_day 64 = .ok (.iconst 2, 1) := by decide +kernel
theorem dX8_day_65 : decode cX8_day 65 = .ok (.iadd, 1) := by decide +kernel
theorem dX8_day_66 : decode cX8_day 66 = .ok (.iaload, 1) := by decide +kernel
theorem dX8_day_67 : decode cX8_day 67 = .ok (.if_icmp .ge 24, 3) := by decide +kernel
theorem dX8_day_70 : decode cX8_day 70 = .ok (.iload_n 2, 1) := by decide +kernel
theorem dX8_day_71 : decode cX8_day 71 = .ok (.ifCond .lt 8, 3) := by decide +kernel
theorem dX8_day_74 : decode cX8_day 74 = .ok (.iload_n 3, 1) := by decide +kernel
theorem dX8_day_75 : decode cX8_day 75 = .ok (.iload_n 2, 1) := by decide +kernel
theorem dX8_day_76 : decode cX8_day 76 = .ok (.if_icmp .ne 9, 3) := by decide +kernel
theorem dX8_day_79 : decode cX8_day 79 = .ok (.aload_n 0, 1) := by decide +kernel
theorem dX8_day_80 : decode cX8_day 80 = .ok (.iload_n 1, 1) := by decide +kernel
theorem dX8_day_81 : decode cX8_day 81 = .ok (.iload_n 3, 1) := by decide +kernel
theorem dX8_day_82 : decode cX8_day 82 = .ok (.invokevirtual 136, 3) := by decide +kernel
theorem dX8_day_85 : decode cX8_day 85 = .ok (.iinc 3 1, 3) := by decide +kernel
theorem dX8_day_88 : decode cX8_day 88 = .ok (.goto (-33), 3) := by decide +kernel
theorem dX8_day_91 : decode cX8_day 91 = .ok (.aload_n 0, 1) := by decide +kernel
theorem dX8_day_92 : decode cX8_day 92 = .ok (.getfield 7, 3) := by decide +kernel
theorem dX8_day_95 : decode cX8_day 95 = .ok (.iload_n 1, 1) := by decide +kernel
theorem dX8_day_96 : decode cX8_day 96 = .ok (.bipush 57, 2) := by decide +kernel
theorem dX8_day_98 : decode cX8_day 98 = .ok (.imul, 1) := by decide +kernel
theorem dX8_day_99 : decode cX8_day 99 = .ok (.bipush 54, 2) := by decide +kernel
theorem dX8_day_101 : decode cX8_day 101 = .ok (.iadd, 1) := by decide +kernel
theorem dX8_day_102 : decode cX8_day 102 = .ok (.dup2, 1) := by decide +kernel
theorem dX8_day_103 : decode cX8_day 103 = .ok (.iaload, 1) := by decide +kernel
theorem dX8_day_104 : decode cX8_day 104 = .ok (.iconst 1, 1) := by decide +kernel
theorem dX8_day_105 : decode cX8_day 105 = .ok (.iadd, 1) := by decide +kernel
theorem dX8_day_106 : decode cX8_day 106 = .ok (.iastore, 1) := by decide +kernel
theorem dX8_day_107 : decode cX8_day 107 = .ok (.return_, 1) := by decide +kernel
theorem lq_X8_again_0 {w : Cond} (h : w ∈ (wsX8_again_r1 : List Cond)) : w ∈ wsX8_again := List.mem_cons_of_mem _ (List.mem_append_left _ (List.mem_append_left _ (h)))
theorem lq_X8_again_1 {w : Cond} (h : w ∈ (wsX8_again_r2 : List Cond)) : w ∈ wsX8_again := List.mem_cons_of_mem _ (List.mem_append_left _ (List.mem_append_right _ (h)))
theorem lt_X8_again_X8 : ∀ w ∈ wsX80, w ∈ wsX8_again := fun _ h => List.mem_cons_of_mem _ (List.mem_append_right _ (h))
set_option maxRecDepth 20000 in
theorem ggX8_again_X8_copies : GoodIn wsX8_again wsX8_copies := goodIn_sub (List.forall_mem_cons.mpr ⟨lq_X8_again_0 (List.mem_of_getElem? (i := 4) rfl), (List.forall_mem_append.mpr ⟨(show ∀ w ∈ ([.fieldLink RX8 7 "WinterWalkModel" "slot" "[I"] : List Cond), w ∈ wsX8_again from List.forall_mem_cons.mpr ⟨lq_X8_again_0 (List.mem_of_getElem? (i := 5) rfl), fun _ h => absurd h List.not_mem_nil⟩), lt_X8_again_X8⟩)⟩) (by decide +kernel)
set_option maxRecDepth 20000 in
theorem gX8_again_X8_copies : GoodIn wsX8_again (wsV RX8 114 RX8 yX8_copies wsX8_copies) := goodIn_app (goodIn_sub (List.forall_mem_cons.mpr ⟨lq_X8_again_0 (List.mem_of_getElem? (i := 0) rfl), List.forall_mem_cons.mpr ⟨lq_X8_again_0 (List.mem_of_getElem? (i := 1) rfl), List.forall_mem_cons.mpr ⟨lq_X8_again_0 (List.mem_of_getElem? (i := 2) rfl), List.forall_mem_cons.mpr ⟨lq_X8_again_0 (List.mem_of_getElem? (i := 3) rfl), fun _ h => absurd h List.not_mem_nil⟩⟩⟩⟩) (by decide +kernel)) ggX8_again_X8_copies
set_option maxRecDepth 20000 in
theorem ggX8_again_X8_day : GoodIn wsX8_again wsX8_day := goodIn_sub (List.forall_mem_cons.mpr ⟨lq_X8_again_0 (List.mem_of_getElem? (i := 9) rfl), (List.forall_mem_append.mpr ⟨(List.forall_mem_append.mpr ⟨(show ∀ w ∈ (wsX8_day_r1 : List Cond), w ∈ wsX8_again from List.forall_mem_cons.mpr ⟨lq_X8_again_0 (List.mem_of_getElem? (i := 5) rfl), List.forall_mem_cons.mpr ⟨lq_X8_again_0 (List.mem_of_getElem? (i := 10) rfl), List.forall_mem_cons.mpr ⟨lq_X8_again_0 (List.mem_of_getElem? (i := 11) rfl), List.forall_mem_cons.mpr ⟨lq_X8_again_0 (List.mem_of_getElem? (i := 12) rfl), List.forall_mem_cons.mpr ⟨lq_X8_again_0 (List.mem_of_getElem? (i := 3) rfl), List.forall_mem_cons.mpr ⟨lq_X8_again_0 (List.mem_of_getElem? (i := 13) rfl), List.forall_mem_cons.mpr ⟨lq_X8_again_0 (List.mem_of_getElem? (i := 14) rfl), List.forall_mem_cons.mpr ⟨lq_X8_again_0 (List.mem_of_getElem? (i := 15) rfl), List.forall_mem_cons.mpr ⟨lq_X8_again_0 (List.mem_of_getElem? (i := 16) rfl), List.forall_mem_cons.mpr ⟨lq_X8_again_0 (List.mem_of_getElem? (i := 17) rfl), List.forall_mem_cons.mpr ⟨lq_X8_again_0 (List.mem_of_getElem? (i := 18) rfl), List.forall_mem_cons.mpr ⟨lq_X8_again_0 (List.mem_of_getElem? (i := 19) rfl), List.forall_mem_cons.mpr ⟨lq_X8_again_0 (List.mem_of_getElem? (i := 20) rfl), List.forall_mem_cons.mpr ⟨lq_X8_again_0 (List.mem_of_getElem? (i := 21) rfl), List.forall_mem_cons.mpr ⟨lq_X8_again_0 (List.mem_of_getElem? (i := 22) rfl), List.forall_mem_cons.mpr ⟨lq_X8_again_0 (List.mem_of_getElem? (i := 23) rfl), List.forall_mem_cons.mpr ⟨lq_X8_again_1 (List.mem_of_getElem? (i := 0) rfl), List.forall_mem_cons.mpr ⟨lq_X8_again_1 (List.mem_of_getElem? (i := 1) rfl), List.forall_mem_cons.mpr ⟨lq_X8_again_1 (List.mem_of_getElem? (i := 2) rfl), List.forall_mem_cons.mpr ⟨lq_X8_again_1 (List.mem_of_getElem? (i := 3) rfl), List.forall_mem_cons.mpr ⟨lq_X8_again_1 (List.mem_of_getElem? (i := 4) rfl), List.forall_mem_cons.mpr ⟨lq_X8_again_1 (List.mem_of_getElem? (i := 5) rfl), List.forall_mem_cons.mpr ⟨lq_X8_again_1 (List.mem_of_getElem? (i := 6) rfl), List.forall_mem_cons.mpr ⟨lq_X8_again_1 (List.mem_of_getElem? (i := 7) rfl), fun _ h => absurd h List.not_mem_nil⟩⟩⟩⟩⟩⟩⟩⟩⟩⟩⟩⟩⟩⟩⟩⟩⟩⟩⟩⟩⟩⟩⟩⟩), (show ∀ w ∈ (wsX8_day_r2 : List Cond), w ∈ wsX8_again from List.forall_mem_cons.mpr ⟨lq_X8_again_1 (List.mem_of_getElem? (i := 8) rfl), fun _ h => absurd h List.not_mem_nil⟩)⟩), lt_X8_again_X8⟩)⟩) (by decide +kernel)
set_option maxRecDepth 20000 in
theorem gX8_again_X8_day : GoodIn wsX8_again (wsV RX8 139 RX8 yX8_day wsX8_day) := goodIn_app (goodIn_sub (List.forall_mem_cons.mpr ⟨lq_X8_again_0 (List.mem_of_getElem? (i := 6) rfl), List.forall_mem_cons.mpr ⟨lq_X8_again_0 (List.mem_of_getElem? (i := 7) rfl), List.forall_mem_cons.mpr ⟨lq_X8_again_0 (List.mem_of_getElem? (i := 8) rfl), List.forall_mem_cons.mpr ⟨lq_X8_again_0 (List.mem_of_getElem? (i := 3) rfl), fun _ h => absurd h List.not_mem_nil⟩⟩⟩⟩) (by decide +kernel)) ggX8_again_X8_day
theorem dX8_again_0 : decode cX8_again 0 = .ok (.aload_n 0, 1) := by decide +kernel
theorem dX8_again_1 : decode cX8_again 1 = .ok (.iconst 0, 1) := by decide +kernel
theorem dX8_again_2 : decode cX8_again 2 = .ok (.bipush 27, 2) := by decide +kernel
theorem dX8_again_4 : decode cX8_again 4 = .ok (.invokevirtual 114, 3) := by decide +kernel
theorem dX8_again_7 : decode cX8_again 7 = .ok (.iconst 0, 1) := by decide +kernel
theorem dX8_again_8 : decode cX8_again 8 = .ok (.istore_n 2, 1) := by decide +kernel
theorem dX8_again_9 : decode cX8_again 9 = .ok (.iload_n 2, 1) := by decide +kernel
theorem dX8_again_10 : decode cX8_again 10 = .ok (.iload_n 1, 1) := by decide +kernel
theorem dX8_again_11 : decode cX8_again 11 = .ok (.if_icmp .ge 16, 3) := by decide +kernel
theorem dX8_again_14 : decode cX8_again 14 = .ok (.aload_n 0, 1) := by decide +kernel
theorem dX8_again_15 : decode cX8_again 15 = .ok (.bipush 27, 2) := by decide +kernel
theorem dX8_again_17 : decode cX8_again 17 = .ok (.iconst (-1), 1) := by decide +kernel
theorem dX8_again_18 : decode cX8_again 18 = .ok (.invokevirtual 139, 3) := by decide +kernel
theorem dX8_again_21 : decode cX8_again 21 = .ok (.iinc 2 1, 3) := by decide +kernel
theorem dX8_again_24 : decode cX8_again 24 = .ok (.goto (-15), 3) := by decide +kernel
theorem dX8_again_27 : decode cX8_again 27 = .ok (.return_, 1) := by decide +kernel
theorem lq_X8_days_0 {w : Cond} (h : w ∈ (wsX8_days_r1 : List Cond)) : w ∈ wsX8_days := List.mem_cons_of_mem _ (List.mem_append_left _ (List.mem_append_left _ (h)))
theorem lq_X8_days_1 {w : Cond} (h : w ∈ (wsX8_days_r2 : List Cond)) : w ∈ wsX8_days := List.mem_cons_of_mem _ (List.mem_append_left _ (List.mem_append_right _ (h)))
theorem lt_X8_days_X8 : ∀ w ∈ wsX80, w ∈ wsX8_days := fun _ h => List.mem_cons_of_mem _ (List.mem_append_right _ (h))
set_option maxRecDepth 20000 in
theorem ggX8_days_X8_in : GoodIn wsX8_days wsX8_in := goodIn_sub (List.forall_mem_cons.mpr ⟨lq_X8_days_0 (List.mem_of_getElem? (i := 8) rfl), (show ∀ w ∈ ([] : List Cond), w ∈ wsX8_days from fun _ h => absurd h List.not_mem_nil)⟩) (by decide +kernel)
set_option maxRecDepth 20000 in
theorem gX8_days_X8_in : GoodIn wsX8_days (va_wsS RX8 42 yX8_in wsX8_in) := goodIn_app (goodIn_sub (List.forall_mem_cons.mpr ⟨lq_X8_days_0 (List.mem_of_getElem? (i := 5) rfl), List.forall_mem_cons.mpr ⟨lq_X8_days_0 (List.mem_of_getElem? (i := 6) rfl), List.forall_mem_cons.mpr ⟨lq_X8_days_0 (List.mem_of_getElem? (i := 7) rfl), fun _ h => absurd h List.not_mem_nil⟩⟩⟩) (by decide +kernel)) ggX8_days_X8_in
set_option maxRecDepth 20000 in
theorem ggX8_days_X8_known : GoodIn wsX8_days wsX8_known := goodIn_sub (List.forall_mem_cons.mpr ⟨lq_X8_days_0 (List.mem_of_getElem? (i := 12) rfl), (List.forall_mem_append.mpr ⟨(show ∀ w ∈ ([.fieldLink RX8 118 "WinterWalkModel" "acts" "I", .methodLink RX8 114 yX8_copies, .instanceMethod yX8_copies, .selects RX8 yX8_copies yX8_copies, .initialized RX8, .code yX8_copies cX8_copies 4 none, .fieldLink RX8 7 "WinterWalkModel" "slot" "[I"] : List Cond), w ∈ wsX8_days from List.forall_mem_cons.mpr ⟨lq_X8_days_0 (List.mem_of_getElem? (i := 13) rfl), List.forall_mem_cons.mpr ⟨lq_X8_days_0 (List.mem_of_getElem? (i := 14) rfl), List.forall_mem_cons.mpr ⟨lq_X8_days_0 (List.mem_of_getElem? (i := 15) rfl), List.forall_mem_cons.mpr ⟨lq_X8_days_0 (List.mem_of_getElem? (i := 16) rfl), List.forall_mem_cons.mpr ⟨lq_X8_days_0 (List.mem_of_getElem? (i := 7) rfl), List.forall_mem_cons.mpr ⟨lq_X8_days_0 (List.mem_of_getElem? (i := 17) rfl), List.forall_mem_cons.mpr ⟨lq_X8_days_0 (List.mem_of_getElem? (i := 0) rfl), fun _ h => absurd h List.not_mem_nil⟩⟩⟩⟩⟩⟩⟩), lt_X8_days_X8⟩)⟩) (by decide +kernel)
set_option maxRecDepth 20000 in
theorem gX8_days_X8_known : GoodIn wsX8_days (wsV RX8 144 RX8 yX8_known wsX8_known) := goodIn_app (goodIn_sub (List.forall_mem_cons.mpr ⟨lq_X8_days_0 (List.mem_of_getElem? (i := 9) rfl), List.forall_mem_cons.mpr ⟨lq_X8_days_0 (List.mem_of_getElem? (i := 10) rfl), List.forall_mem_cons.mpr ⟨lq_X8_days_0 (List.mem_of_getElem? (i := 11) rfl), List.forall_mem_cons.mpr ⟨lq_X8_days_0 (List.mem_of_getElem? (i := 7) rfl), fun _ h => absurd h List.not_mem_nil⟩⟩⟩⟩) (by decide +kernel)) ggX8_days_X8_known
set_option maxRecDepth 20000 in
theorem ggX8_days_X8_day : GoodIn wsX8_days wsX8_day := goodIn_sub (List.forall_mem_cons.mpr ⟨lq_X8_days_0 (List.mem_of_getElem? (i := 21) rfl), (List.forall_mem_append.mpr ⟨(List.forall_mem_append.mpr ⟨(show ∀ w ∈ (wsX8_day_r1 : List Cond), w ∈ wsX8_days from List.forall_mem_cons.mpr ⟨lq_X8_days_0 (List.mem_of_getElem? (i := 0) rfl), List.forall_mem_cons.mpr ⟨lq_X8_days_0 (List.mem_of_getElem? (i := 22) rfl), List.forall_mem_cons.mpr ⟨lq_X8_days_0 (List.mem_of_getElem? (i := 23) rfl), List.forall_mem_cons.mpr ⟨lq_X8_days_1 (List.mem_of_getElem? (i := 0) rfl), List.forall_mem_cons.mpr ⟨lq_X8_days_0 (List.mem_of_getElem? (i := 7) rfl), List.forall_mem_cons.mpr ⟨lq_X8_days_1 (List.mem_of_getElem? (i := 1) rfl), List.forall_mem_cons.mpr ⟨lq_X8_days_1 (List.mem_of_getElem? (i := 2) rfl), List.forall_mem_cons.mpr ⟨lq_X8_days_1 (List.mem_of_getElem? (i := 3) rfl), List.forall_mem_cons.mpr ⟨lq_X8_days_1 (List.mem_of_getElem? (i := 4) rfl), List.forall_mem_cons.mpr ⟨lq_X8_days_1 (List.mem_of_getElem? (i := 5) rfl), List.forall_mem_cons.mpr ⟨lq_X8_days_1 (List.mem_of_getElem? (i := 6) rfl), List.forall_mem_cons.mpr ⟨lq_X8_days_1 (List.mem_of_getElem? (i := 7) rfl), List.forall_mem_cons.mpr ⟨lq_X8_days_1 (List.mem_of_getElem? (i := 8) rfl), List.forall_mem_cons.mpr ⟨lq_X8_days_1 (List.mem_of_getElem? (i := 9) rfl), List.forall_mem_cons.mpr ⟨lq_X8_days_1 (List.mem_of_getElem? (i := 10) rfl), List.forall_mem_cons.mpr ⟨lq_X8_days_1 (List.mem_of_getElem? (i := 11) rfl), List.forall_mem_cons.mpr ⟨lq_X8_days_1 (List.mem_of_getElem? (i := 12) rfl), List.forall_mem_cons.mpr ⟨lq_X8_days_1 (List.mem_of_getElem? (i := 13) rfl), List.forall_mem_cons.mpr ⟨lq_X8_days_1 (List.mem_of_getElem? (i := 14) rfl), List.forall_mem_cons.mpr ⟨lq_X8_days_1 (List.mem_of_getElem? (i := 15) rfl), List.forall_mem_cons.mpr ⟨lq_X8_days_1 (List.mem_of_getElem? (i := 16) rfl), List.forall_mem_cons.mpr ⟨lq_X8_days_1 (List.mem_of_getElem? (i := 17) rfl), List.forall_mem_cons.mpr ⟨lq_X8_days_1 (List.mem_of_getElem? (i := 18) rfl), List.forall_mem_cons.mpr ⟨lq_X8_days_1 (List.mem_of_getElem? (i := 19) rfl), fun _ h => absurd h List.not_mem_nil⟩⟩⟩⟩⟩⟩⟩⟩⟩⟩⟩⟩⟩⟩⟩⟩⟩⟩⟩⟩⟩⟩⟩⟩), (show ∀ w ∈ (wsX8_day_r2 : List Cond), w ∈ wsX8_days from List.forall_mem_cons.mpr ⟨lq_X8_days_1 (List.mem_of_getElem? (i := 20) rfl), fun _ h => absurd h List.not_mem_nil⟩)⟩), lt_X8_days_X8⟩)⟩) (by decide +kernel)
set_option maxRecDepth 20000 in
theorem gX8_days_X8_day : GoodIn wsX8_days (wsV RX8 139 RX8 yX8_day wsX8_day) := goodIn_app (goodIn_sub (List.forall_mem_cons.mpr ⟨lq_X8_days_0 (List.mem_of_getElem? (i := 18) rfl), List.forall_mem_cons.mpr ⟨lq_X8_days_0 (List.mem_of_getElem? (i := 19) rfl), List.forall_mem_cons.mpr ⟨lq_X8_days_0 (List.mem_of_getElem? (i := 20) rfl), List.forall_mem_cons.mpr ⟨lq_X8_days_0 (List.mem_of_getElem? (i := 7) rfl), fun _ h => absurd h List.not_mem_nil⟩⟩⟩⟩) (by decide +kernel)) ggX8_days_X8_day
theorem dX8_days_0 : decode cX8_days 0 = .ok (.aload_n 0, 1) := by decide +kernel
theorem dX8_days_1 : decode cX8_days 1 = .ok (.getfield 7, 3) := by decide +kernel
theorem dX8_days_4 : decode cX8_days 4 = .ok (.iconst 1, 1) := by decide +kernel
theorem dX8_days_5 : decode cX8_days 5 = .ok (.iaload, 1) := by decide +kernel
theorem dX8_days_6 : decode cX8_days 6 = .ok (.ifCond .ne 6, 3) := by decide +kernel
theorem dX8_days_9 : decode cX8_days 9 = .ok (.ldc 121, 2) := by decide +kernel
theorem dX8_days_11 : decode cX8_days 11 = .ok (.ireturn, 1) := by decide +kernel
theorem dX8_days_12 : decode cX8_days 12 = .ok (.iload_n 1, 1) := by decide +kernel
theorem dX8_days_13 : decode cX8_days 13 = .ok (.i2l, 1) := by decide +kernel
theorem dX8_days_14 : decode cX8_days 14 = .ok (.lconst 1, 1) := by decide +kernel
theorem dX8_days_15 : decode cX8_days 15 = .ok (.ldc2_w 142, 3) := by decide +kernel
theorem dX8_days_18 : decode cX8_days 18 = .ok (.invokestatic 42, 3) := by decide +kernel
theorem dX8_days_21 : decode cX8_days 21 = .ok (.ifCond .ne 6, 3) := by decide +kernel
theorem dX8_days_24 : decode cX8_days 24 = .ok (.ldc 48, 2) := by decide +kernel
theorem dX8_days_26 : decode cX8_days 26 = .ok (.ireturn, 1) := by decide +kernel
theorem dX8_days_27 : decode cX8_days 27 = .ok (.aload_n 0, 1) := by decide +kernel
theorem dX8_days_28 : decode cX8_days 28 = .ok (.getfield 7, 3) := by decide +kernel
theorem dX8_days_31 : decode cX8_days 31 = .ok (.bipush 54, 2) := by decide +kernel
theorem dX8_days_33 : decode cX8_days 33 = .ok (.iaload, 1) := by decide +kernel
theorem dX8_days_34 : decode cX8_days 34 = .ok (.iload_n 1, 1) := by decide +kernel
theorem dX8_days_35 : decode cX8_days 35 = .ok (.iadd, 1) := by decide +kernel
theorem dX8_days_36 : decode cX8_days 36 = .ok (.sipush 999, 3) := by decide +kernel
theorem dX8_days_39 : decode cX8_days 39 = .ok (.if_icmp .le 6, 3) := by decide +kernel
theorem dX8_days_42 : decode cX8_days 42 = .ok (.ldc 61, 2) := by decide +kernel
theorem dX8_days_44 : decode cX8_days 44 = .ok (.ireturn, 1) := by decide +kernel
theorem dX8_days_45 : decode cX8_days 45 = .ok (.iconst 0, 1) := by decide +kernel
theorem dX8_days_46 : decode cX8_days 46 = .ok (.istore_n 2, 1) := by decide +kernel
theorem dX8_days_47 : decode cX8_days 47 = .ok (.iload_n 2, 1) := by decide +kernel
theorem dX8_days_48 : decode cX8_days 48 = .ok (.iload_n 1, 1) := by decide +kernel
theorem dX8_days_49 : decode cX8_days 49 = .ok (.if_icmp .ge 19, 3) := by decide +kernel
theorem dX8_days_52 : decode cX8_days 52 = .ok (.aload_n 0, 1) := by decide +kernel
theorem dX8_days_53 : decode cX8_days 53 = .ok (.invokevirtual 144, 3) := by decide +kernel
theorem dX8_days_56 : decode cX8_days 56 = .ok (.aload_n 0, 1) := by decide +kernel
theorem dX8_days_57 : decode cX8_days 57 = .ok (.iconst 0, 1) := by decide +kernel
theorem dX8_days_58 : decode cX8_days 58 = .ok (.iconst (-1), 1) := by decide +kernel
theorem dX8_days_59 : decode cX8_days 59 = .ok (.invokevirtual 139, 3) := by decide +kernel
theorem dX8_days_62 : decode cX8_days 62 = .ok (.iinc 2 1, 3) := by decide +kernel
theorem dX8_days_65 : decode cX8_days 65 = .ok (.goto (-18), 3) := by decide +kernel
theorem dX8_days_68 : decode cX8_days 68 = .ok (.aload_n 0, 1) := by decide +kernel
theorem dX8_days_69 : decode cX8_days 69 = .ok (.getfield 7, 3) := by decide +kernel
theorem dX8_days_72 : decode cX8_days 72 = .ok (.bipush 55, 2) := by decide +kernel
theorem dX8_days_74 : decode cX8_days 74 = .ok (.iaload, 1) := by decide +kernel
theorem dX8_days_75 : decode cX8_days 75 = .ok (.ireturn, 1) := by decide +kernel
theorem lq_X8_offer_0 {w : Cond} (h : w ∈ ([.constantLong RX8 150 (20), .constant RX8 48 (-1000001), .fieldLink RX8 7 "WinterWalkModel" "slot" "[I", .methodLink RX8 147 yX8_isVillageThere, .instanceMethod yX8_isVillageThere, .selects RX8 yX8_isVillageThere yX8_isVillageThere, .initialized RX8, .code yX8_isVillageThere cX8_isVillageThere 2 (some .boolean), .methodLink RX8 42 yX8_in, .static yX8_in, .code yX8_in cX8_in 6 (some .boolean), .methodLink RX8 144 yX8_known, .instanceMethod yX8_known, .selects RX8 yX8_known yX8_known, .code yX8_known cX8_known 2 none, .fieldLink RX8 118 "WinterWalkModel" "acts" "I", .methodLink RX8 114 yX8_copies, .instanceMethod yX8_copies, .selects RX8 yX8_copies yX8_copies, .code yX8_copies cX8_copies 4 none] : List Cond)) : w ∈ wsX8_offer := List.mem_cons_of_mem _ (List.mem_append_left _ (h))
theorem lt_X8_offer_X8 : ∀ w ∈ wsX80, w ∈ wsX8_offer := fun _ h => List.mem_cons_of_mem _ (List.mem_append_right _ (h))
set_option maxRecDepth 20000 in
theorem ggX8_offer_X8_isVillageThere : GoodIn wsX8_offer wsX8_isVillageThere := goodIn_sub (List.forall_mem_cons.mpr ⟨lq_X8_offer_0 (List.mem_of_getElem? (i := 7) rfl), (List.forall_mem_append.mpr ⟨(show ∀ w ∈ ([.fieldLink RX8 7 "WinterWalkModel" "slot" "[I", .methodLink RX8 42 yX8_in, .static yX8_in, .initialized RX8, .code yX8_in cX8_in 6 (some .boolean)] : List Cond), w ∈ wsX8_offer from List.forall_mem_cons.mpr ⟨lq_X8_offer_0 (List.mem_of_getElem? (i := 2) rfl), List.forall_mem_cons.mpr ⟨lq_X8_offer_0 (List.mem_of_getElem? (i := 8) rfl), List.forall_mem_cons.mpr ⟨lq_X8_offer_0 (List.mem_of_getElem? (i := 9) rfl), List.forall_mem_cons.mpr ⟨lq_X8_offer_0 (List.mem_of_getElem? (i := 6) rfl), List.forall_mem_cons.mpr ⟨lq_X8_offer_0 (List.mem_of_getElem? (i := 10) rfl), fun _ h => absurd h List.not_mem_nil⟩⟩⟩⟩⟩), lt_X8_offer_X8⟩)⟩) (by decide +kernel)
set_option maxRecDepth 20000 in
theorem gX8_offer_X8_isVillageThere : GoodIn wsX8_offer (wsV RX8 147 RX8 yX8_isVillageThere wsX8_isVillageThere) := goodIn_app (goodIn_sub (List.forall_mem_cons.mpr ⟨lq_X8_offer_0 (List.mem_of_getElem? (i := 3) rfl), List.forall_mem_cons.mpr ⟨lq_X8_offer_0 (List.mem_of_getElem? (i := 4) rfl), List.forall_mem_cons.mpr ⟨lq_X8_offer_0 (List.mem_of_getElem? (i := 5) rfl), List.forall_mem_cons.mpr ⟨lq_X8_offer_0 (List.mem_of_getElem? (i := 6) rfl), fun _ h => absurd h List.not_mem_nil⟩⟩⟩⟩) (by decide +kernel)) ggX8_offer_X8_isVillageThere
set_option maxRecDepth 20000 in
theorem ggX8_offer_X8_in : GoodIn wsX8_offer wsX8_in := goodIn_sub (List.forall_mem_cons.mpr ⟨lq_X8_offer_0 (List.mem_of_getElem? (i := 10) rfl), (show ∀ w ∈ ([] : List Cond), w ∈ wsX8_offer from fun _ h => absurd h List.not_mem_nil)⟩) (by decide +kernel)
set_option maxRecDepth 20000 in
theorem gX8_offer_X8_in : GoodIn wsX8_offer (va_wsS RX8 42 yX8_in wsX8_in) := goodIn_app (goodIn_sub (List.forall_mem_cons.mpr ⟨lq_X8_offer_0 (List.mem_of_getElem? (i := 8) rfl), List.forall_mem_cons.mpr ⟨lq_X8_offer_0 (List.mem_of_getElem? (i := 9) rfl), List.forall_mem_cons.mpr ⟨lq_X8_offer_0 (List.mem_of_getElem? (i := 6) rfl), fun _ h => absurd h List.not_mem_nil⟩⟩⟩) (by decide +kernel)) ggX8_offer_X8_in
set_option maxRecDepth 20000 in
theorem ggX8_offer_X8_known : GoodIn wsX8_offer wsX8_known := goodIn_sub (List.forall_mem_cons.mpr ⟨lq_X8_offer_0 (List.mem_of_getElem? (i := 14) rfl), (List.forall_mem_append.mpr ⟨(show ∀ w ∈ ([.fieldLink RX8 118 "WinterWalkModel" "acts" "I", .methodLink RX8 114 yX8_copies, .instanceMethod yX8_copies, .selects RX8 yX8_copies yX8_copies, .initialized RX8, .code yX8_copies cX8_copies 4 none, .fieldLink RX8 7 "WinterWalkModel" "slot" "[I"] : List Cond), w ∈ wsX8_offer from List.forall_mem_cons.mpr ⟨lq_X8_offer_0 (List.mem_of_getElem? (i := 15) rfl), List.forall_mem_cons.mpr ⟨lq_X8_offer_0 (List.mem_of_getElem? (i := 16) rfl), List.forall_mem_cons.mpr ⟨lq_X8_offer_0 (List.mem_of_getElem? (i := 17) rfl), List.forall_mem_cons.mpr ⟨lq_X8_offer_0 (List.mem_of_getElem? (i := 18) rfl), List.forall_mem_cons.mpr ⟨lq_X8_offer_0 (List.mem_of_getElem? (i := 6) rfl), List.forall_mem_cons.mpr ⟨lq_X8_offer_0 (List.mem_of_getElem? (i := 19) rfl), List.forall_mem_cons.mpr ⟨lq_X8_offer_0 (List.mem_of_getElem? (i := 2) rfl), fun _ h => absurd h List.not_mem_nil⟩⟩⟩⟩⟩⟩⟩), lt_X8_offer_X8⟩)⟩) (by decide +kernel)
set_option maxRecDepth 20000 in
theorem gX8_offer_X8_known : GoodIn wsX8_offer (wsV RX8 144 RX8 yX8_known wsX8_known) := goodIn_app (goodIn_sub (List.forall_mem_cons.mpr ⟨lq_X8_offer_0 (List.mem_of_getElem? (i := 11) rfl), List.forall_mem_cons.mpr ⟨lq_X8_offer_0 (List.mem_of_getElem? (i := 12) rfl), List.forall_mem_cons.mpr ⟨lq_X8_offer_0 (List.mem_of_getElem? (i := 13) rfl), List.forall_mem_cons.mpr ⟨lq_X8_offer_0 (List.mem_of_getElem? (i := 6) rfl), fun _ h => absurd h List.not_mem_nil⟩⟩⟩⟩) (by decide +kernel)) ggX8_offer_X8_known
theorem dX8_offer_0 : decode cX8_offer 0 = .ok (.aload_n 0, 1) := by decide +kernel
theorem dX8_offer_1 : decode cX8_offer 1 = .ok (.iload_n 1, 1) := by decide +kernel
theorem dX8_offer_2 : decode cX8_offer 2 = .ok (.invokevirtual 147, 3) := by decide +kernel
theorem dX8_offer_5 : decode cX8_offer 5 = .ok (.ifCond .eq 15, 3) := by decide +kernel
theorem dX8_offer_8 : decode cX8_offer 8 = .ok (.iload_n 2, 1) := by decide +kernel
theorem dX8_offer_9 : decode cX8_offer 9 = .ok (.i2l, 1) := by decide +kernel
theorem dX8_offer_10 : decode cX8_offer 10 = .ok (.lconst 0, 1) := by decide +kernel
theorem dX8_offer_11 : decode cX8_offer 11 = .ok (.ldc2_w 150, 3) := by decide +kernel
theorem dX8_offer_14 : decode cX8_offer 14 = .ok (.invokestatic 42, 3) := by decide +kernel
theorem dX8_offer_17 : decode cX8_offer 17 = .ok (.ifCond .ne 6, 3) := by decide +kernel
theorem dX8_offer_20 : decode cX8_offer 20 = .ok (.ldc 48, 2) := by decide +kernel
theorem dX8_offer_22 : decode cX8_offer 22 = .ok (.ireturn, 1) := by decide +kernel
theorem dX8_offer_23 : decode cX8_offer 23 = .ok (.aload_n 0, 1) := by decide +kernel
theorem dX8_offer_24 : decode cX8_offer 24 = .ok (.invokevirtual 144, 3) := by decide +kernel
theorem dX8_offer_27 : decode cX8_offer 27 = .ok (.aload_n 0, 1) := by decide +kernel
theorem dX8_offer_28 : decode cX8_offer 28 = .ok (.getfield 7, 3) := by decide +kernel
theorem dX8_offer_31 : decode cX8_offer 31 = .ok (.bipush 23, 2) := by decide +kernel
theorem dX8_offer_33 : decode cX8_offer 33 = .ok (.iload_n 1, 1) := by decide +kernel
theorem dX8_offer_34 : decode cX8_offer 34 = .ok (.iadd, 1) := by decide +kernel
theorem dX8_offer_35 : decode cX8_offer 35 = .ok (.iaload, 1) := by decide +kernel
theorem dX8_offer_36 : decode cX8_offer 36 = .ok (.istore_n 3, 1) := by decide +kernel
theorem dX8_offer_37 : decode cX8_offer 37 = .ok (.aload_n 0, 1) := by decide +kernel
theorem dX8_offer_38 : decode cX8_offer 38 = .ok (.getfield 7, 3) := by decide +kernel
theorem dX8_offer_41 : decode cX8_offer 41 = .ok (.bipush 23, 2) := by decide +kernel
theorem dX8_offer_43 : decode cX8_offer 43 = .ok (.iload_n 1, 1) := by decide +kernel
theorem dX8_offer_44 : decode cX8_offer 44 = .ok (.iadd, 1) := by decide +kernel
theorem dX8_offer_45 : decode cX8_offer 45 = .ok (.iload_n 2, 1) := by decide +kernel
theorem dX8_offer_46 : decode cX8_offer 46 = .ok (.iastore, 1) := by decide +kernel
theorem dX8_offer_47 : decode cX8_offer 47 = .ok (.iload_n 3, 1) := by decide +kernel
theorem dX8_offer_48 : decode cX8_offer 48 = .ok (.ireturn, 1) := by decide +kernel
theorem dX8_many_0 : decode cX8_many 0 = .ok (.iconst 0, 1) := by decide +kernel
theorem dX8_many_1 : decode cX8_many 1 = .ok (.istore_n 1, 1) := by decide +kernel
theorem dX8_many_2 : decode cX8_many 2 = .ok (.iconst 0, 1) := by decide +kernel
theorem dX8_many_3 : decode cX8_many 3 = .ok (.istore_n 2, 1) := by decide +kernel
theorem dX8_many_4 : decode cX8_many 4 = .ok (.iload_n 2, 1) := by decide +kernel
theorem dX8_many_5 : decode cX8_many 5 = .ok (.bipush 8, 2) := by decide +kernel
theorem dX8_many_7 : decode cX8_many 7 = .ok (.if_icmp .ge 17, 3) := by decide +kernel
theorem dX8_many_10 : decode cX8_many 10 = .ok (.iload_n 1, 1) := by decide +kernel
theorem dX8_many_11 : decode cX8_many 11 = .ok (.iload_n 0, 1) := by decide +kernel
theorem dX8_many_12 : decode cX8_many 12 = .ok (.iload_n 2, 1) := by decide +kernel
theorem dX8_many_13 : decode cX8_many 13 = .ok (.ishr, 1) := by decide +kernel
theorem dX8_many_14 : decode cX8_many 14 = .ok (.iconst 1, 1) := by decide +kernel
theorem dX8_many_15 : decode cX8_many 15 = .ok (.iand, 1) := by decide +kernel
theorem dX8_many_16 : decode cX8_many 16 = .ok (.iadd, 1) := by decide +kernel
theorem dX8_many_17 : decode cX8_many 17 = .ok (.istore_n 1, 1) := by decide +kernel
theorem dX8_many_18 : decode cX8_many 18 = .ok (.iinc 2 1, 3) := by decide +kernel
theorem dX8_many_21 : decode cX8_many 21 = .ok (.goto (-17), 3) := by decide +kernel
theorem dX8_many_24 : decode cX8_many 24 = .ok (.iload_n 1, 1) := by decide +kernel
theorem dX8_many_25 : decode cX8_many 25 = .ok (.ireturn, 1) := by decide +kernel
theorem lq_X8_door_0 {w : Cond} (h : w ∈ ([.constant RX8 48 (-1000001), .fieldLink RX8 7 "WinterWalkModel" "slot" "[I", .constant RX8 121 (-1000002), .methodLink RX8 147 yX8_isVillageThere, .instanceMethod yX8_isVillageThere, .selects RX8 yX8_isVillageThere yX8_isVillageThere, .initialized RX8, .code yX8_isVillageThere cX8_isVillageThere 2 (some .boolean), .methodLink RX8 42 yX8_in, .static yX8_in, .code yX8_in cX8_in 6 (some .boolean), .methodLink RX8 144 yX8_known, .instanceMethod yX8_known, .selects RX8 yX8_known yX8_known, .code yX8_known cX8_known 2 none, .fieldLink RX8 118 "WinterWalkModel" "acts" "I", .methodLink RX8 114 yX8_copies, .instanceMethod yX8_copies, .selects RX8 yX8_copies yX8_copies, .code yX8_copies cX8_copies 4 none, .methodLink RX8 152 yX8_many, .static yX8_many, .code yX8_many cX8_many 3 (some .int)] : List Cond)) : w ∈ wsX8_door := List.mem_cons_of_mem _ (List.mem_append_left _ (h))
theorem lt_X8_door_X8 : ∀ w ∈ wsX80, w ∈ wsX8_door := fun _ h => List.mem_cons_of_mem _ (List.mem_append_right _ (h))
set_option maxRecDepth 20000 in
theorem ggX8_door_X8_isVillageThere : GoodIn wsX8_door wsX8_isVillageThere := goodIn_sub (List.forall_mem_cons.mpr ⟨lq_X8_door_0 (List.mem_of_getElem? (i := 7) rfl), (List.forall_mem_append.mpr ⟨(show ∀ w ∈ ([.fieldLink RX8 7 "WinterWalkModel" "slot" "[I", .methodLink RX8 42 yX8_in, .static yX8_in, .initialized RX8, .code yX8_in cX8_in 6 (some .boolean)] : List Cond), w ∈ wsX8_door from List.forall_mem_cons.mpr ⟨lq_X8_door_0 (List.mem_of_getElem? (i := 1) rfl), List.forall_mem_cons.mpr ⟨lq_X8_door_0 (List.mem_of_getElem? (i := 8) rfl), List.forall_mem_cons.mpr ⟨lq_X8_door_0 (List.mem_of_getElem? (i := 9) rfl), List.forall_mem_cons.mpr ⟨lq_X8_door_0 (List.mem_of_getElem? (i := 6) rfl), List.forall_mem_cons.mpr ⟨lq_X8_door_0 (List.mem_of_getElem? (i := 10) rfl), fun _ h => absurd h List.not_mem_nil⟩⟩⟩⟩⟩), lt_X8_door_X8⟩)⟩) (by decide +kernel)
set_option maxRecDepth 20000 in
theorem gX8_door_X8_isVillageThere : GoodIn wsX8_door (wsV RX8 147 RX8 yX8_isVillageThere wsX8_isVillageThere) := goodIn_app (goodIn_sub (List.forall_mem_cons.mpr ⟨lq_X8_door_0 (List.mem_of_getElem? (i := 3) rfl), List.forall_mem_cons.mpr ⟨lq_X8_door_0 (List.mem_of_getElem? (i := 4) rfl), List.forall_mem_cons.mpr ⟨lq_X8_door_0 (List.mem_of_getElem? (i := 5) rfl), List.forall_mem_cons.mpr ⟨lq_X8_door_0 (List.mem_of_getElem? (i := 6) rfl), fun _ h => absurd h List.not_mem_nil⟩⟩⟩⟩) (by decide +kernel)) ggX8_door_X8_isVillageThere
set_option maxRecDepth 20000 in
theorem ggX8_door_X8_in : GoodIn wsX8_door wsX8_in := goodIn_sub (List.forall_mem_cons.mpr ⟨lq_X8_door_0 (List.mem_of_getElem? (i := 10) rfl), (show ∀ w ∈ ([] : List Cond), w ∈ wsX8_door from fun _ h => absurd h List.not_mem_nil)⟩) (by decide +kernel)
set_option maxRecDepth 20000 in
theorem gX8_door_X8_in : GoodIn wsX8_door (va_wsS RX8 42 yX8_in wsX8_in) := goodIn_app (goodIn_sub (List.forall_mem_cons.mpr ⟨lq_X8_door_0 (List.mem_of_getElem? (i := 8) rfl), List.forall_mem_cons.mpr ⟨lq_X8_door_0 (List.mem_of_getElem? (i := 9) rfl), List.forall_mem_cons.mpr ⟨lq_X8_door_0 (List.mem_of_getElem? (i := 6) rfl), fun _ h => absurd h List.not_mem_nil⟩⟩⟩) (by decide +kernel)) ggX8_door_X8_in
set_option maxRecDepth 20000 in
theorem ggX8_door_X8_known : GoodIn wsX8_door wsX8_known := goodIn_sub (List.forall_mem_cons.mpr ⟨lq_X8_door_0 (List.mem_of_getElem? (i := 14) rfl), (List.forall_mem_append.mpr ⟨(show ∀ w ∈ ([.fieldLink RX8 118 "WinterWalkModel" "acts" "I", .methodLink RX8 114 yX8_copies, .instanceMethod yX8_copies, .selects RX8 yX8_copies yX8_copies, .initialized RX8, .code yX8_copies cX8_copies 4 none, .fieldLink RX8 7 "WinterWalkModel" "slot" "[I"] : List Cond), w ∈ wsX8_door from List.forall_mem_cons.mpr ⟨lq_X8_door_0 (List.mem_of_getElem? (i := 15) rfl), List.forall_mem_cons.mpr ⟨lq_X8_door_0 (List.mem_of_getElem? (i := 16) rfl), List.forall_mem_cons.mpr ⟨lq_X8_door_0 (List.mem_of_getElem? (i := 17) rfl), List.forall_mem_cons.mpr ⟨lq_X8_door_0 (List.mem_of_getElem? (i := 18) rfl), List.forall_mem_cons.mpr ⟨lq_X8_door_0 (List.mem_of_getElem? (i := 6) rfl), List.forall_mem_cons.mpr ⟨lq_X8_door_0 (List.mem_of_getElem? (i := 19) rfl), List.forall_mem_cons.mpr ⟨lq_X8_door_0 (List.mem_of_getElem? (i := 1) rfl), fun _ h => absurd h List.not_mem_nil⟩⟩⟩⟩⟩⟩⟩), lt_X8_door_X8⟩)⟩) (by decide +kernel)
set_option maxRecDepth 20000 in
theorem gX8_door_X8_known : GoodIn wsX8_door (wsV RX8 144 RX8 yX8_known wsX8_known) := goodIn_app (goodIn_sub (List.forall_mem_cons.mpr ⟨lq_X8_door_0 (List.mem_of_getElem? (i := 11) rfl), List.forall_mem_cons.mpr ⟨lq_X8_door_0 (List.mem_of_getElem? (i := 12) rfl), List.forall_mem_cons.mpr ⟨lq_X8_door_0 (List.mem_of_getElem? (i := 13) rfl), List.forall_mem_cons.mpr ⟨lq_X8_door_0 (List.mem_of_getElem? (i := 6) rfl), fun _ h => absurd h List.not_mem_nil⟩⟩⟩⟩) (by decide +kernel)) ggX8_door_X8_known
set_option maxRecDepth 20000 in
theorem ggX8_door_X8_many : GoodIn wsX8_door wsX8_many := goodIn_sub (List.forall_mem_cons.mpr ⟨lq_X8_door_0 (List.mem_of_getElem? (i := 22) rfl), (show ∀ w ∈ ([] : List Cond), w ∈ wsX8_door from fun _ h => absurd h List.not_mem_nil)⟩) (by decide +kernel)
set_option maxRecDepth 20000 in
theorem gX8_door_X8_many : GoodIn wsX8_door (va_wsS RX8 152 yX8_many wsX8_many) := goodIn_app (goodIn_sub (List.forall_mem_cons.mpr ⟨lq_X8_door_0 (List.mem_of_getElem? (i := 20) rfl), List.forall_mem_cons.mpr ⟨lq_X8_door_0 (List.mem_of_getElem? (i := 21) rfl), List.forall_mem_cons.mpr ⟨lq_X8_door_0 (List.mem_of_getElem? (i := 6) rfl), fun _ h => absurd h List.not_mem_nil⟩⟩⟩) (by decide +kernel)) ggX8_door_X8_many
theorem dX8_door_0 : decode cX8_door 0 = .ok (.aload_n 0, 1) := by decide +kernel
theorem dX8_door_1 : decode cX8_door 1 = .ok (.iload_n 1, 1) := by decide +kernel
theorem dX8_door_2 : decode cX8_door 2 = .ok (.invokevirtual 147, 3) := by decide +kernel
theorem dX8_door_5 : decode cX8_door 5 = .ok (.ifCond .eq 13, 3) := by decide +kernel
theorem dX8_door_8 : decode cX8_door 8 = .ok (.iload_n 2, 1) := by decide +kernel
theorem dX8_door_9 : decode cX8_door 9 = .ok (.i2l, 1) := by decide +kernel
theorem dX8_door_10 : decode cX8_door 10 = .ok (.lconst 0, 1) := by decide +kernel
theorem dX8_door_11 : decode cX8_door 11 = .ok (.lconst 1, 1) := by decide +kernel
theorem dX8_door_12 : decode cX8_door 12 = .ok (.invokestatic 42, 3) := by decide +kernel
theorem dX8_door_15 : decode cX8_door 15 = .ok (.ifCond .ne 6, 3) := by decide +kernel
theorem dX8_door_18 : decode cX8_door 18 = .ok (.ldc 48, 2) := by decide +kernel
theorem dX8_door_20 : decode cX8_door 20 = .ok (.ireturn, 1) := by decide +kernel
theorem dX8_door_21 : decode cX8_door 21 = .ok (.aload_n 0, 1) := by decide +kernel
theorem dX8_door_22 : decode cX8_door 22 = .ok (.getfield 7, 3) := by decide +kernel
theorem dX8_door_25 : decode cX8_door 25 = .ok (.bipush 31, 2) := by decide +kernel
theorem dX8_door_27 : decode cX8_door 27 = .ok (.iaload, 1) := by decide +kernel
theorem dX8_door_28 : decode cX8_door 28 = .ok (.iload_n 1, 1) := by decide +kernel
theorem dX8_door_29 : decode cX8_door 29 = .ok (.ishr, 1) := by decide +kernel
theorem dX8_door_30 : decode cX8_door 30 = .ok (.iconst 1, 1) := by decide +kernel
theorem dX8_door_31 : decode cX8_door 31 = .ok (.iand, 1) := by decide +kernel
theorem dX8_door_32 : decode cX8_door 32 = .ok (.iload_n 2, 1) := by decide +kernel
theorem dX8_door_33 : decode cX8_door 33 = .ok (.if_icmp .ne 6, 3) := by decide +kernel
theorem dX8_door_36 : decode cX8_door 36 = .ok (.ldc 121, 2) := by decide +kernel
theorem dX8_door_38 : decode cX8_door 38 = .ok (.ireturn, 1) := by decide +kernel
theorem dX8_door_39 : decode cX8_door 39 = .ok (.aload_n 0, 1) := by decide +kernel
theorem dX8_door_40 : decode cX8_door 40 = .ok (.invokevirtual 144, 3) := by decide +kernel
theorem dX8_door_43 : decode cX8_door 43 = .ok (.aload_n 0, 1) := by decide +kernel
theorem dX8_door_44 : decode cX8_door 44 = .ok (.getfield 7, 3) := by decide +kernel
theorem dX8_door_47 : decode cX8_door 47 = .ok (.bipush 31, 2) := by decide +kernel
theorem dX8_door_49 : decode cX8_door 49 = .ok (.dup2, 1) := by decide +kernel
theorem dX8_door_50 : decode cX8_door 50 = .ok (.iaload, 1) := by decide +kernel
theorem dX8_door_51 : decode cX8_door 51 = .ok (.iconst 1, 1) := by decide +kernel
theorem dX8_door_52 : decode cX8_door 52 = .ok (.iload_n 1, 1) := by decide +kernel
theorem dX8_door_53 : decode cX8_door 53 = .ok (.ishl, 1) := by decide +kernel
theorem dX8_door_54 : decode cX8_door 54 = .ok (.ixor, 1) := by decide +kernel
theorem dX8_door_55 : decode cX8_door 55 = .ok (.iastore, 1) := by decide +kernel
theorem dX8_door_56 : decode cX8_door 56 = .ok (.aload_n 0, 1) := by decide +kernel
theorem dX8_door_57 : decode cX8_door 57 = .ok (.getfield 7, 3) := by decide +kernel
theorem dX8_door_60 : decode cX8_door 60 = .ok (.bipush 31, 2) := by decide +kernel
theorem dX8_door_62 : decode cX8_door 62 = .ok (.iaload, 1) := by decide +kernel
theorem dX8_door_63 : decode cX8_door 63 = .ok (.invokestatic 152, 3) := by decide +kernel
theorem dX8_door_66 : decode cX8_door 66 = .ok (.ireturn, 1) := by decide +kernel
theorem lq_X8_village_0 {w : Cond} (h : w ∈ ([.constantLong RX8 155 (5), .constant RX8 48 (-1000001), .fieldLink RX8 7 "WinterWalkModel" "slot" "[I", .methodLink RX8 147 yX8_isVillageThere, .instanceMethod yX8_isVillageThere, .selects RX8 yX8_isVillageThere yX8_isVillageThere, .initialized RX8, .code yX8_isVillageThere cX8_isVillageThere 2 (some .boolean), .methodLink RX8 42 yX8_in, .static yX8_in, .code yX8_in cX8_in 6 (some .boolean)] : List Cond)) : w ∈ wsX8_village := List.mem_cons_of_mem _ (List.mem_append_left _ (h))
theorem lt_X8_village_X8 : ∀ w ∈ wsX80, w ∈ wsX8_village := fun _ h => List.mem_cons_of_mem _ (List.mem_append_right _ (h))
set_option maxRecDepth 20000 in
theorem ggX8_village_X8_isVillageThere : GoodIn wsX8_village wsX8_isVillageThere := goodIn_sub (List.forall_mem_cons.mpr ⟨lq_X8_village_0 (List.mem_of_getElem? (i := 7) rfl), (List.forall_mem_append.mpr ⟨(show ∀ w ∈ ([.fieldLink RX8 7 "WinterWalkModel" "slot" "[I", .methodLink RX8 42 yX8_in, .static yX8_in, .initialized RX8, .code yX8_in cX8_in 6 (some .boolean)] : List Cond), w ∈ wsX8_village from List.forall_mem_cons.mpr ⟨lq_X8_village_0 (List.mem_of_getElem? (i := 2) rfl), List.forall_mem_cons.mpr ⟨lq_X8_village_0 (List.mem_of_getElem? (i := 8) rfl), List.forall_mem_cons.mpr ⟨lq_X8_village_0 (List.mem_of_getElem? (i := 9) rfl), List.forall_mem_cons.mpr ⟨lq_X8_village_0 (List.mem_of_getElem? (i := 6) rfl), List.forall_mem_cons.mpr ⟨lq_X8_village_0 (List.mem_of_getElem? (i := 10) rfl), fun _ h => absurd h List.not_mem_nil⟩⟩⟩⟩⟩), lt_X8_village_X8⟩)⟩) (by decide +kernel)
set_option maxRecDepth 20000 in
theorem gX8_village_X8_isVillageThere : GoodIn wsX8_village (wsV RX8 147 RX8 yX8_isVillageThere wsX8_isVillageThere) := goodIn_app (goodIn_sub (List.forall_mem_cons.mpr ⟨lq_X8_village_0 (List.mem_of_getElem? (i := 3) rfl), List.forall_mem_cons.mpr ⟨lq_X8_village_0 (List.mem_of_getElem? (i := 4) rfl), List.forall_mem_cons.mpr ⟨lq_X8_village_0 (List.mem_of_getElem? (i := 5) rfl), List.forall_mem_cons.mpr ⟨lq_X8_village_0 (List.mem_of_getElem? (i := 6) rfl), fun _ h => absurd h List.not_mem_nil⟩⟩⟩⟩) (by decide +kernel)) ggX8_village_X8_isVillageThere
set_option maxRecDepth 20000 in
theorem ggX8_village_X8_in : GoodIn wsX8_village wsX8_in := goodIn_sub (List.forall_mem_cons.mpr ⟨lq_X8_village_0 (List.mem_of_getElem? (i := 10) rfl), (show ∀ w ∈ ([] : List Cond), w ∈ wsX8_village from fun _ h => absurd h List.not_mem_nil)⟩) (by decide +kernel)
set_option maxRecDepth 20000 in
theorem gX8_village_X8_in : GoodIn wsX8_village (va_wsS RX8 42 yX8_in wsX8_in) := goodIn_app (goodIn_sub (List.forall_mem_cons.mpr ⟨lq_X8_village_0 (List.mem_of_getElem? (i := 8) rfl), List.forall_mem_cons.mpr ⟨lq_X8_village_0 (List.mem_of_getElem? (i := 9) rfl), List.forall_mem_cons.mpr ⟨lq_X8_village_0 (List.mem_of_getElem? (i := 6) rfl), fun _ h => absurd h List.not_mem_nil⟩⟩⟩) (by decide +kernel)) ggX8_village_X8_in
theorem dX8_village_0 : decode cX8_village 0 = .ok (.aload_n 0, 1) := by decide +kernel
theorem dX8_village_1 : decode cX8_village 1 = .ok (.iload_n 1, 1) := by decide +kernel
theorem dX8_village_2 : decode cX8_village 2 = .ok (.invokevirtual 147, 3) := by decide +kernel
theorem dX8_village_5 : decode cX8_village 5 = .ok (.ifCond .eq 15, 3) := by decide +kernel
theorem dX8_village_8 : decode cX8_village 8 = .ok (.iload_n 2, 1) := by decide +kernel
theorem dX8_village_9 : decode cX8_village 9 = .ok (.i2l, 1) := by decide +kernel
theorem dX8_village_10 : decode cX8_village 10 = .ok (.lconst 0, 1) := by decide +kernel
theorem dX8_village_11 : decode cX8_village 11 = .ok (.ldc2_w 155, 3) := by decide +kernel
theorem dX8_village_14 : decode cX8_village 14 = .ok (.invokestatic 42, 3) := by decide +kernel
theorem dX8_village_17 : decode cX8_village 17 = .ok (.ifCond .ne 6, 3) := by decide +kernel
theorem dX8_village_20 : decode cX8_village 20 = .ok (.ldc 48, 2) := by decide +kernel
theorem dX8_village_22 : decode cX8_village 22 = .ok (.ireturn, 1) := by decide +kernel
theorem dX8_village_23 : decode cX8_village 23 = .ok (.iload_n 2, 1) := by decide +kernel
theorem dX8_village_24 : decode cX8_village 24 = .ok (.tableswitch 87 0 4 #[36, 45, 55, 67, 77], 36) := by decide +kernel
theorem dX8_village_60 : decode cX8_village 60 = .ok (.aload_n 0, 1) := by decide +kernel
theorem dX8_village_61 : decode cX8_village 61 = .ok (.getfield 7, 3) := by decide +kernel
theorem dX8_village_64 : decode cX8_village 64 = .ok (.iconst 4, 1) := by decide +kernel
theorem dX8_village_65 : decode cX8_village 65 = .ok (.iload_n 1, 1) := by decide +kernel
theorem dX8_village_66 : decode cX8_village 66 = .ok (.iadd, 1) := by decide +kernel
theorem dX8_village_67 : decode cX8_village 67 = .ok (.iaload, 1) := by decide +kernel
theorem dX8_village_68 : decode cX8_village 68 = .ok (.ireturn, 1) := by decide +kernel
theorem dX8_village_69 : decode cX8_village 69 = .ok (.aload_n 0, 1) := by decide +kernel
theorem dX8_village_70 : decode cX8_village 70 = .ok (.getfield 7, 3) := by decide +kernel
theorem dX8_village_73 : decode cX8_village 73 = .ok (.bipush 23, 2) := by decide +kernel
theorem dX8_village_75 : decode cX8_village 75 = .ok (.iload_n 1, 1) := by decide +kernel
theorem dX8_village_76 : decode cX8_village 76 = .ok (.iadd, 1) := by decide +kernel
theorem dX8_village_77 : decode cX8_village 77 = .ok (.iaload, 1) := by decide +kernel
theorem dX8_village_78 : decode cX8_village 78 = .ok (.ireturn, 1) := by decide +kernel
theorem dX8_village_79 : decode cX8_village 79 = .ok (.aload_n 0, 1) := by decide +kernel
theorem dX8_village_80 : decode cX8_village 80 = .ok (.getfield 7, 3) := by decide +kernel
theorem dX8_village_83 : decode cX8_village 83 = .ok (.bipush 31, 2) := by decide +kernel
theorem dX8_village_85 : decode cX8_village 85 = .ok (.iaload, 1) := by decide +kernel
theorem dX8_village_86 : decode cX8_village 86 = .ok (.iload_n 1, 1) := by decide +kernel
theorem dX8_village_87 : decode cX8_village 87 = .ok (.ishr, 1) := by decide +kernel
theorem dX8_village_88 : decode cX8_village 88 = .ok (.iconst 1, 1) := by decide +kernel
theorem dX8_village_89 : decode cX8_village 89 = .ok (.iand, 1) := by decide +kernel
theorem dX8_village_90 : decode cX8_village 90 = .ok (.ireturn, 1) := by decide +kernel
theorem dX8_village_91 : decode cX8_village 91 = .ok (.aload_n 0, 1) := by decide +kernel
theorem dX8_village_92 : decode cX8_village 92 = .ok (.getfield 7, 3) := by decide +kernel
theorem dX8_village_95 : decode cX8_village 95 = .ok (.bipush 32, 2) := by decide +kernel
theorem dX8_village_97 : decode cX8_village 97 = .ok (.iload_n 1, 1) := by decide +kernel
theorem dX8_village_98 : decode cX8_village 98 = .ok (.iadd, 1) := by decide +kernel
theorem dX8_village_99 : decode cX8_village 99 = .ok (.iaload, 1) := by decide +kernel
theorem dX8_village_100 : decode cX8_village 100 = .ok (.ireturn, 1) := by decide +kernel
theorem dX8_village_101 : decode cX8_village 101 = .ok (.aload_n 0, 1) := by decide +kernel
theorem dX8_village_102 : decode cX8_village 102 = .ok (.getfield 7, 3) := by decide +kernel
theorem dX8_village_105 : decode cX8_village 105 = .ok (.bipush 40, 2) := by decide +kernel
theorem dX8_village_107 : decode cX8_village 107 = .ok (.iload_n 1, 1) := by decide +kernel
theorem dX8_village_108 : decode cX8_village 108 = .ok (.iadd, 1) := by decide +kernel
theorem dX8_village_109 : decode cX8_village 109 = .ok (.iaload, 1) := by decide +kernel
theorem dX8_village_110 : decode cX8_village 110 = .ok (.ireturn, 1) := by decide +kernel
theorem dX8_village_111 : decode cX8_village 111 = .ok (.aload_n 0, 1) := by decide +kernel
theorem dX8_village_112 : decode cX8_village 112 = .ok (.getfield 7, 3) := by decide +kernel
theorem dX8_village_115 : decode cX8_village 115 = .ok (.bipush 12, 2) := by decide +kernel
theorem dX8_village_117 : decode cX8_village 117 = .ok (.iload_n 1, 1) := by decide +kernel
theorem dX8_village_118 : decode cX8_village 118 = .ok (.iadd, 1) := by decide +kernel
theorem dX8_village_119 : decode cX8_village 119 = .ok (.iaload, 1) := by decide +kernel
theorem dX8_village_120 : decode cX8_village 120 = .ok (.ireturn, 1) := by decide +kernel
theorem lq_X8_walker_0 {w : Cond} (h : w ∈ (wsX8_walker_r1 : List Cond)) : w ∈ wsX8_walker := List.mem_cons_of_mem _ (List.mem_append_left _ (List.mem_append_left _ (h)))
theorem lq_X8_walker_1 {w : Cond} (h : w ∈ (wsX8_walker_r2 : List Cond)) : w ∈ wsX8_walker := List.mem_cons_of_mem _ (List.mem_append_left _ (List.mem_append_right _ (h)))
theorem lt_X8_walker_X8 : ∀ w ∈ wsX80, w ∈ wsX8_walker := fun _ h => List.mem_cons_of_mem _ (List.mem_append_right _ (h))
set_option maxRecDepth 20000 in
theorem ggX8_walker_X8_isWalkerThere : GoodIn wsX8_walker wsX8_isWalkerThere := goodIn_sub (List.forall_mem_cons.mpr ⟨lq_X8_walker_0 (List.mem_of_getElem? (i := 7) rfl), (List.forall_mem_append.mpr ⟨(show ∀ w ∈ ([.fieldLink RX8 7 "WinterWalkModel" "slot" "[I", .methodLink RX8 42 yX8_in, .static yX8_in, .initialized RX8, .code yX8_in cX8_in 6 (some .boolean)] : List Cond), w ∈ wsX8_walker from List.forall_mem_cons.mpr ⟨lq_X8_walker_0 (List.mem_of_getElem? (i := 2) rfl), List.forall_mem_cons.mpr ⟨lq_X8_walker_0 (List.mem_of_getElem? (i := 8) rfl), List.forall_mem_cons.mpr ⟨lq_X8_walker_0 (List.mem_of_getElem? (i := 9) rfl), List.forall_mem_cons.mpr ⟨lq_X8_walker_0 (List.mem_of_getElem? (i := 6) rfl), List.forall_mem_cons.mpr ⟨lq_X8_walker_0 (List.mem_of_getElem? (i := 10) rfl), fun _ h => absurd h List.not_mem_nil⟩⟩⟩⟩⟩), lt_X8_walker_X8⟩)⟩) (by decide +kernel)
set_option maxRecDepth 20000 in
theorem gX8_walker_X8_isWalkerThere : GoodIn wsX8_walker (wsV RX8 157 RX8 yX8_isWalkerThere wsX8_isWalkerThere) := goodIn_app (goodIn_sub (List.forall_mem_cons.mpr ⟨lq_X8_walker_0 (List.mem_of_getElem? (i := 3) rfl), List.forall_mem_cons.mpr ⟨lq_X8_walker_0 (List.mem_of_getElem? (i := 4) rfl), List.forall_mem_cons.mpr ⟨lq_X8_walker_0 (List.mem_of_getElem? (i := 5) rfl), List.forall_mem_cons.mpr ⟨lq_X8_walker_0 (List.mem_of_getElem? (i := 6) rfl), fun _ h => absurd h List.not_mem_nil⟩⟩⟩⟩) (by decide +kernel)) ggX8_walker_X8_isWalkerThere
set_option maxRecDepth 20000 in
theorem ggX8_walker_X8_in : GoodIn wsX8_walker wsX8_in := goodIn_sub (List.forall_mem_cons.mpr ⟨lq_X8_walker_0 (List.mem_of_getElem? (i := 10) rfl), (show ∀ w ∈ ([] : List Cond), w ∈ wsX8_walker from fun _ h => absurd h List.not_mem_nil)⟩) (by decide +kernel)
set_option maxRecDepth 20000 in
theorem gX8_walker_X8_in : GoodIn wsX8_walker (va_wsS RX8 42 yX8_in wsX8_in) := goodIn_app (goodIn_sub (List.forall_mem_cons.mpr ⟨lq_X8_walker_0 (List.mem_of_getElem? (i := 8) rfl), List.forall_mem_cons.mpr ⟨lq_X8_walker_0 (List.mem_of_getElem? (i := 9) rfl), List.forall_mem_cons.mpr ⟨lq_X8_walker_0 (List.mem_of_getElem? (i := 6) rfl), fun _ h => absurd h List.not_mem_nil⟩⟩⟩) (by decide +kernel)) ggX8_walker_X8_in
set_option maxRecDepth 20000 in
theorem ggX8_walker_X8_goesTo : GoodIn wsX8_walker wsX8_goesTo := goodIn_sub (List.forall_mem_cons.mpr ⟨lq_X8_walker_0 (List.mem_of_getElem? (i := 14) rfl), (List.forall_mem_append.mpr ⟨(show ∀ w ∈ ([.fieldLink RX8 7 "WinterWalkModel" "slot" "[I", .methodLink RX8 122 yX8_open, .instanceMethod yX8_open, .selects RX8 yX8_open yX8_open, .initialized RX8, .code yX8_open cX8_open 3 (some .int), .methodLink RX8 126 yX8_dearest, .instanceMethod yX8_dearest, .selects RX8 yX8_dearest yX8_dearest, .code yX8_dearest cX8_dearest 6 (some .int), .methodLink RX8 93 yX8_has, .static yX8_has, .code yX8_has cX8_has 2 (some .boolean), .methodLink RX8 130 yX8_rarest, .instanceMethod yX8_rarest, .selects RX8 yX8_rarest yX8_rarest, .code yX8_rarest cX8_rarest 6 (some .int)] : List Cond), w ∈ wsX8_walker from List.forall_mem_cons.mpr ⟨lq_X8_walker_0 (List.mem_of_getElem? (i := 2) rfl), List.forall_mem_cons.mpr ⟨lq_X8_walker_0 (List.mem_of_getElem? (i := 15) rfl), List.forall_mem_cons.mpr ⟨lq_X8_walker_0 (List.mem_of_getElem? (i := 16) rfl), List.forall_mem_cons.mpr ⟨lq_X8_walker_0 (List.mem_of_getElem? (i := 17) rfl), List.forall_mem_cons.mpr ⟨lq_X8_walker_0 (List.mem_of_getElem? (i := 6) rfl), List.forall_mem_cons.mpr ⟨lq_X8_walker_0 (List.mem_of_getElem? (i := 18) rfl), List.forall_mem_cons.mpr ⟨lq_X8_walker_0 (List.mem_of_getElem? (i := 19) rfl), List.forall_mem_cons.mpr ⟨lq_X8_walker_0 (List.mem_of_getElem? (i := 20) rfl), List.forall_mem_cons.mpr ⟨lq_X8_walker_0 (List.mem_of_getElem? (i := 21) rfl), List.forall_mem_cons.mpr ⟨lq_X8_walker_0 (List.mem_of_getElem? (i := 22) rfl), List.forall_mem_cons.mpr ⟨lq_X8_walker_0 (List.mem_of_getElem? (i := 23) rfl), List.forall_mem_cons.mpr ⟨lq_X8_walker_1 (List.mem_of_getElem? (i := 0) rfl), List.forall_mem_cons.mpr ⟨lq_X8_walker_1 (List.mem_of_getElem? (i := 1) rfl), List.forall_mem_cons.mpr ⟨lq_X8_walker_1 (List.mem_of_getElem? (i := 2) rfl), List.forall_mem_cons.mpr ⟨lq_X8_walker_1 (List.mem_of_getElem? (i := 3) rfl), List.forall_mem_cons.mpr ⟨lq_X8_walker_1 (List.mem_of_getElem? (i := 4) rfl), List.forall_mem_cons.mpr ⟨lq_X8_walker_1 (List.mem_of_getElem? (i := 5) rfl), fun _ h => absurd h List.not_mem_nil⟩⟩⟩⟩⟩⟩⟩⟩⟩⟩⟩⟩⟩⟩⟩⟩⟩), lt_X8_walker_X8⟩)⟩) (by decide +kernel)
set_option maxRecDepth 20000 in
theorem gX8_walker_X8_goesTo : GoodIn wsX8_walker (wsV RX8 133 RX8 yX8_goesTo wsX8_goesTo) := goodIn_app (goodIn_sub (List.forall_mem_cons.mpr ⟨lq_X8_walker_0 (List.mem_of_getElem? (i := 11) rfl), List.forall_mem_cons.mpr ⟨lq_X8_walker_0 (List.mem_of_getElem? (i := 12) rfl), List.forall_mem_cons.mpr ⟨lq_X8_walker_0 (List.mem_of_getElem? (i := 13) rfl), List.forall_mem_cons.mpr ⟨lq_X8_walker_0 (List.mem_of_getElem? (i := 6) rfl), fun _ h => absurd h List.not_mem_nil⟩⟩⟩⟩) (by decide +kernel)) ggX8_walker_X8_goesTo
theorem dX8_walker_0 : decode cX8_walker 0 = .ok (.aload_n 0, 1) := by decide +kernel
theorem dX8_walker_1 : decode cX8_walker 1 = .ok (.iload_n 1, 1) := by decide +kernel
theorem dX8_walker_2 : decode cX8_walker 2 = .ok (.invokevirtual 157, 3) := by decide +kernel
theorem dX8_walker_5 : decode cX8_walker 5 = .ok (.ifCond .eq 15, 3) := by decide +kernel
theorem dX8_walker_8 : decode cX8_walker 8 = .ok (.iload_n 2, 1) := by decide +kernel
theorem dX8_walker_9 : decode cX8_walker 9 = .ok (.i2l, 1) := by decide +kernel
theorem dX8_walker_10 : decode cX8_walker 10 = .ok (.lconst 0, 1) := by decide +kernel
theorem dX8_walker_11 : decode cX8_walker 11 = .ok (.ldc2_w 46, 3) := by decide +kernel
theorem dX8_walker_14 : decode cX8_walker 14 = .ok (.invokestatic 42, 3) := by decide +kernel
theorem dX8_walker_17 : decode cX8_walker 17 = .ok (.ifCond .ne 6, 3) := by decide +kernel
theorem dX8_walker_20 : decode cX8_walker 20 = .ok (.ldc 48, 2) := by decide +kernel
theorem dX8_walker_22 : decode cX8_walker 22 = .ok (.ireturn, 1) := by decide +kernel
theorem dX8_walker_23 : decode cX8_walker 23 = .ok (.iload_n 2, 1) := by decide +kernel
theorem dX8_walker_24 : decode cX8_walker 24 = .ok (.ifCond .ne 15, 3) := by decide +kernel
theorem dX8_walker_27 : decode cX8_walker 27 = .ok (.aload_n 0, 1) := by decide +kernel
theorem dX8_walker_28 : decode cX8_walker 28 = .ok (.getfield 7, 3) := by decide +kernel
theorem dX8_walker_31 : decode cX8_walker 31 = .ok (.bipush 48, 2) := by decide +kernel
theorem dX8_walker_33 : decode cX8_walker 33 = .ok (.iload_n 1, 1) := by decide +kernel
theorem dX8_walker_34 : decode cX8_walker 34 = .ok (.iadd, 1) := by decide +kernel
theorem dX8_walker_35 : decode cX8_walker 35 = .ok (.iaload, 1) := by decide +kernel
theorem dX8_walker_36 : decode cX8_walker 36 = .ok (.goto 26, 3) := by decide +kernel
theorem dX8_walker_39 : decode cX8_walker 39 = .ok (.iload_n 2, 1) := by decide +kernel
theorem dX8_walker_40 : decode cX8_walker 40 = .ok (.iconst 1, 1) := by decide +kernel
theorem dX8_walker_41 : decode cX8_walker 41 = .ok (.if_icmp .ne 15, 3) := by decide +kernel
theorem dX8_walker_44 : decode cX8_walker 44 = .ok (.aload_n 0, 1) := by decide +kernel
theorem dX8_walker_45 : decode cX8_walker 45 = .ok (.getfield 7, 3) := by decide +kernel
theorem dX8_walker_48 : decode cX8_walker 48 = .ok (.bipush 51, 2) := by decide +kernel
theorem dX8_walker_50 : decode cX8_walker 50 = .ok (.iload_n 1, 1) := by decide +kernel
theorem dX8_walker_51 : decode cX8_walker 51 = .ok (.iadd, 1) := by decide +kernel
theorem dX8_walker_52 : decode cX8_walker 52 = .ok (.iaload, 1) := by decide +kernel
theorem dX8_walker_53 : decode cX8_walker 53 = .ok (.goto 9, 3) := by decide +kernel
theorem dX8_walker_56 : decode cX8_walker 56 = .ok (.aload_n 0, 1) := by decide +kernel
theorem dX8_walker_57 : decode cX8_walker 57 = .ok (.iconst 0, 1) := by decide +kernel
theorem dX8_walker_58 : decode cX8_walker 58 = .ok (.iload_n 1, 1) := by decide +kernel
theorem dX8_walker_59 : decode cX8_walker 59 = .ok (.invokevirtual 133, 3) := by decide +kernel
theorem dX8_walker_62 : decode cX8_walker 62 = .ok (.ireturn, 1) := by decide +kernel
theorem lq_X8_ahead_0 {w : Cond} (h : w ∈ (wsX8_ahead_r1 : List Cond)) : w ∈ wsX8_ahead := List.mem_cons_of_mem _ (List.mem_append_left _ (List.mem_append_left _ (h)))
theorem lq_X8_ahead_1 {w : Cond} (h : w ∈ (wsX8_ahead_r2 : List Cond)) : w ∈ wsX8_ahead := List.mem_cons_of_mem _ (List.mem_append_left _ (List.mem_append_right _ (h)))
theorem lt_X8_ahead_X8 : ∀ w ∈ wsX80, w ∈ wsX8_ahead := fun _ h => List.mem_cons_of_mem _ (List.mem_append_right _ (h))
set_option maxRecDepth 20000 in
theorem ggX8_ahead_X8_isWalkerThere : GoodIn wsX8_ahead wsX8_isWalkerThere := goodIn_sub (List.forall_mem_cons.mpr ⟨lq_X8_ahead_0 (List.mem_of_getElem? (i := 7) rfl), (List.forall_mem_append.mpr ⟨(show ∀ w ∈ ([.fieldLink RX8 7 "WinterWalkModel" "slot" "[I", .methodLink RX8 42 yX8_in, .static yX8_in, .initialized RX8, .code yX8_in cX8_in 6 (some .boolean)] : List Cond), w ∈ wsX8_ahead from List.forall_mem_cons.mpr ⟨lq_X8_ahead_0 (List.mem_of_getElem? (i := 2) rfl), List.forall_mem_cons.mpr ⟨lq_X8_ahead_0 (List.mem_of_getElem? (i := 8) rfl), List.forall_mem_cons.mpr ⟨lq_X8_ahead_0 (List.mem_of_getElem? (i := 9) rfl), List.forall_mem_cons.mpr ⟨lq_X8_ahead_0 (List.mem_of_getElem? (i := 6) rfl), List.forall_mem_cons.mpr ⟨lq_X8_ahead_0 (List.mem_of_getElem? (i := 10) rfl), fun _ h => absurd h List.not_mem_nil⟩⟩⟩⟩⟩), lt_X8_ahead_X8⟩)⟩) (by decide +kernel)
set_option maxRecDepth 20000 in
theorem gX8_ahead_X8_isWalkerThere : GoodIn wsX8_ahead (wsV RX8 157 RX8 yX8_isWalkerThere wsX8_isWalkerThere) := goodIn_app (goodIn_sub (List.forall_mem_cons.mpr ⟨lq_X8_ahead_0 (List.mem_of_getElem? (i := 3) rfl), List.forall_mem_cons.mpr ⟨lq_X8_ahead_0 (List.mem_of_getElem? (i := 4) rfl), List.forall_mem_cons.mpr ⟨lq_X8_ahead_0 (List.mem_of_getElem? (i := 5) rfl), List.forall_mem_cons.mpr ⟨lq_X8_ahead_0 (List.mem_of_getElem? (i := 6) rfl), fun _ h => absurd h List.not_mem_nil⟩⟩⟩⟩) (by decide +kernel)) ggX8_ahead_X8_isWalkerThere
set_option maxRecDepth 20000 in
theorem ggX8_ahead_X8_in : GoodIn wsX8_ahead wsX8_in := goodIn_sub (List.forall_mem_cons.mpr ⟨lq_X8_ahead_0 (List.mem_of_getElem? (i := 10) rfl), (show ∀ w ∈ ([] : List Cond), w ∈ wsX8_ahead from fun _ h => absurd h List.not_mem_nil)⟩) (by decide +kernel)
set_option maxRecDepth 20000 in
theorem gX8_ahead_X8_in : GoodIn wsX8_ahead (va_wsS RX8 42 yX8_in wsX8_in) := goodIn_app (goodIn_sub (List.forall_mem_cons.mpr ⟨lq_X8_ahead_0 (List.mem_of_getElem? (i := 8) rfl), List.forall_mem_cons.mpr ⟨lq_X8_ahead_0 (List.mem_of_getElem? (i := 9) rfl), List.forall_mem_cons.mpr ⟨lq_X8_ahead_0 (List.mem_of_getElem? (i := 6) rfl), fun _ h => absurd h List.not_mem_nil⟩⟩⟩) (by decide +kernel)) ggX8_ahead_X8_in
set_option maxRecDepth 20000 in
theorem ggX8_ahead_X8_again : GoodIn wsX8_ahead wsX8_again := goodIn_sub (List.forall_mem_cons.mpr ⟨lq_X8_ahead_0 (List.mem_of_getElem? (i := 14) rfl), (List.forall_mem_append.mpr ⟨(List.forall_mem_append.mpr ⟨(show ∀ w ∈ (wsX8_again_r1 : List Cond), w ∈ wsX8_ahead from List.forall_mem_cons.mpr ⟨lq_X8_ahead_0 (List.mem_of_getElem? (i := 15) rfl), List.forall_mem_cons.mpr ⟨lq_X8_ahead_0 (List.mem_of_getElem? (i := 16) rfl), List.forall_mem_cons.mpr ⟨lq_X8_ahead_0 (List.mem_of_getElem? (i := 17) rfl), List.forall_mem_cons.mpr ⟨lq_X8_ahead_0 (List.mem_of_getElem? (i := 6) rfl), List.forall_mem_cons.mpr ⟨lq_X8_ahead_0 (List.mem_of_getElem? (i := 18) rfl), List.forall_mem_cons.mpr ⟨lq_X8_ahead_0 (List.mem_of_getElem? (i := 2) rfl), List.forall_mem_cons.mpr ⟨lq_X8_ahead_0 (List.mem_of_getElem? (i := 19) rfl), List.forall_mem_cons.mpr ⟨lq_X8_ahead_0 (List.mem_of_getElem? (i := 20) rfl), List.forall_mem_cons.mpr ⟨lq_X8_ahead_0 (List.mem_of_getElem? (i := 21) rfl), List.forall_mem_cons.mpr ⟨lq_X8_ahead_0 (List.mem_of_getElem? (i := 22) rfl), List.forall_mem_cons.mpr ⟨lq_X8_ahead_0 (List.mem_of_getElem? (i := 23) rfl), List.forall_mem_cons.mpr ⟨lq_X8_ahead_1 (List.mem_of_getElem? (i := 0) rfl), List.forall_mem_cons.mpr ⟨lq_X8_ahead_1 (List.mem_of_getElem? (i := 1) rfl), List.forall_mem_cons.mpr ⟨lq_X8_ahead_1 (List.mem_of_getElem? (i := 2) rfl), List.forall_mem_cons.mpr ⟨lq_X8_ahead_1 (List.mem_of_getElem? (i := 3) rfl), List.forall_mem_cons.mpr ⟨lq_X8_ahead_1 (List.mem_of_getElem? (i := 4) rfl), List.forall_mem_cons.mpr ⟨lq_X8_ahead_1 (List.mem_of_getElem? (i := 5) rfl), List.forall_mem_cons.mpr ⟨lq_X8_ahead_1 (List.mem_of_getElem? (i := 6) rfl), List.forall_mem_cons.mpr ⟨lq_X8_ahead_1 (List.mem_of_getElem? (i := 7) rfl), List.forall_mem_cons.mpr ⟨lq_X8_ahead_1 (List.mem_of_getElem? (i := 8) rfl), List.forall_mem_cons.mpr ⟨lq_X8_ahead_1 (List.mem_of_getElem? (i := 9) rfl), List.forall_mem_cons.mpr ⟨lq_X8_ahead_1 (List.mem_of_getElem? (i := 10) rfl), List.forall_mem_cons.mpr ⟨lq_X8_ahead_1 (List.mem_of_getElem? (i := 11) rfl), List.forall_mem_cons.mpr ⟨lq_X8_ahead_1 (List.mem_of_getElem? (i := 12) rfl), fun _ h => absurd h List.not_mem_nil⟩⟩⟩⟩⟩⟩⟩⟩⟩⟩⟩⟩⟩⟩⟩⟩⟩⟩⟩⟩⟩⟩⟩⟩), (show ∀ w ∈ (wsX8_again_r2 : List Cond), w ∈ wsX8_ahead from List.forall_mem_cons.mpr ⟨lq_X8_ahead_1 (List.mem_of_getElem? (i := 13) rfl), List.forall_mem_cons.mpr ⟨lq_X8_ahead_1 (List.mem_of_getElem? (i := 14) rfl), List.forall_mem_cons.mpr ⟨lq_X8_ahead_1 (List.mem_of_getElem? (i := 15) rfl), List.forall_mem_cons.mpr ⟨lq_X8_ahead_1 (List.mem_of_getElem? (i := 16) rfl), List.forall_mem_cons.mpr ⟨lq_X8_ahead_1 (List.mem_of_getElem? (i := 17) rfl), List.forall_mem_cons.mpr ⟨lq_X8_ahead_1 (List.mem_of_getElem? (i := 18) rfl), List.forall_mem_cons.mpr ⟨lq_X8_ahead_1 (List.mem_of_getElem? (i := 19) rfl), List.forall_mem_cons.mpr ⟨lq_X8_ahead_1 (List.mem_of_getElem? (i := 20) rfl), List.forall_mem_cons.mpr ⟨lq_X8_ahead_1 (List.mem_of_getElem? (i := 21) rfl), fun _ h => absurd h List.not_mem_nil⟩⟩⟩⟩⟩⟩⟩⟩⟩)⟩), lt_X8_ahead_X8⟩)⟩) (by decide +kernel)
set_option maxRecDepth 20000 in
theorem gX8_ahead_X8_again : GoodIn wsX8_ahead (wsV RX8 162 RX8 yX8_again wsX8_again) := goodIn_app (goodIn_sub (List.forall_mem_cons.mpr ⟨lq_X8_ahead_0 (List.mem_of_getElem? (i := 11) rfl), List.forall_mem_cons.mpr ⟨lq_X8_ahead_0 (List.mem_of_getElem? (i := 12) rfl), List.forall_mem_cons.mpr ⟨lq_X8_ahead_0 (List.mem_of_getElem? (i := 13) rfl), List.forall_mem_cons.mpr ⟨lq_X8_ahead_0 (List.mem_of_getElem? (i := 6) rfl), fun _ h => absurd h List.not_mem_nil⟩⟩⟩⟩) (by decide +kernel)) ggX8_ahead_X8_again
theorem dX8_ahead_0 : decode cX8_ahead 0 = .ok (.aload_n 0, 1) := by decide +kernel
theorem dX8_ahead_1 : decode cX8_ahead 1 = .ok (.iload_n 1, 1) := by decide +kernel
theorem dX8_ahead_2 : decode cX8_ahead 2 = .ok (.invokevirtual 157, 3) := by decide +kernel
theorem dX8_ahead_5 : decode cX8_ahead 5 = .ok (.ifCond .eq 25, 3) := by decide +kernel
theorem dX8_ahead_8 : decode cX8_ahead 8 = .ok (.iload_n 2, 1) := by decide +kernel
theorem dX8_ahead_9 : decode cX8_ahead 9 = .ok (.i2l, 1) := by decide +kernel
theorem dX8_ahead_10 : decode cX8_ahead 10 = .ok (.lconst 0, 1) := by decide +kernel
theorem dX8_ahead_11 : decode cX8_ahead 11 = .ok (.ldc2_w 160, 3) := by decide +kernel
theorem dX8_ahead_14 : decode cX8_ahead 14 = .ok (.invokestatic 42, 3) := by decide +kernel
theorem dX8_ahead_17 : decode cX8_ahead 17 = .ok (.ifCond .eq 13, 3) := by decide +kernel
theorem dX8_ahead_20 : decode cX8_ahead 20 = .ok (.iload_n 3, 1) := by decide +kernel
theorem dX8_ahead_21 : decode cX8_ahead 21 = .ok (.i2l, 1) := by decide +kernel
theorem dX8_ahead_22 : decode cX8_ahead 22 = .ok (.lconst 0, 1) := by decide +kernel
theorem dX8_ahead_23 : decode cX8_ahead 23 = .ok (.lconst 1, 1) := by decide +kernel
theorem dX8_ahead_24 : decode cX8_ahead 24 = .ok (.invokestatic 42, 3) := by decide +kernel
theorem dX8_ahead_27 : decode cX8_ahead 27 = .ok (.ifCond .ne 6, 3) := by decide +kernel
theorem dX8_ahead_30 : decode cX8_ahead 30 = .ok (.ldc 48, 2) := by decide +kernel
theorem dX8_ahead_32 : decode cX8_ahead 32 = .ok (.ireturn, 1) := by decide +kernel
theorem dX8_ahead_33 : decode cX8_ahead 33 = .ok (.aload_n 0, 1) := by decide +kernel
theorem dX8_ahead_34 : decode cX8_ahead 34 = .ok (.iload_n 2, 1) := by decide +kernel
theorem dX8_ahead_35 : decode cX8_ahead 35 = .ok (.invokevirtual 162, 3) := by decide +kernel
theorem dX8_ahead_38 : decode cX8_ahead 38 = .ok (.aload_n 0, 1) := by decide +kernel
theorem dX8_ahead_39 : decode cX8_ahead 39 = .ok (.getfield 7, 3) := by decide +kernel
theorem dX8_ahead_42 : decode cX8_ahead 42 = .ok (.sipush 1539, 3) := by decide +kernel
theorem dX8_ahead_45 : decode cX8_ahead 45 = .ok (.iload_n 3, 1) := by decide +kernel
theorem dX8_ahead_46 : decode cX8_ahead 46 = .ok (.ifCond .ne 8, 3) := by decide +kernel
theorem dX8_ahead_49 : decode cX8_ahead 49 = .ok (.bipush 48, 2) := by decide +kernel
theorem dX8_ahead_51 : decode cX8_ahead 51 = .ok (.goto 5, 3) := by decide +kernel
theorem dX8_ahead_54 : decode cX8_ahead 54 = .ok (.bipush 51, 2) := by decide +kernel
theorem dX8_ahead_56 : decode cX8_ahead 56 = .ok (.iadd, 1) := by decide +kernel
theorem dX8_ahead_57 : decode cX8_ahead 57 = .ok (.iload_n 1, 1) := by decide +kernel
theorem dX8_ahead_58 : decode cX8_ahead 58 = .ok (.iadd, 1) := by decide +kernel
theorem dX8_ahead_59 : decode cX8_ahead 59 = .ok (.iaload, 1) := by decide +kernel
theorem dX8_ahead_60 : decode cX8_ahead 60 = .ok (.ireturn, 1) := by decide +kernel
theorem dX8_frozen_0 : decode cX8_frozen 0 = .ok (.iconst 0, 1) := by decide +kernel
theorem dX8_frozen_1 : decode cX8_frozen 1 = .ok (.istore_n 2, 1) := by decide +kernel
theorem dX8_frozen_2 : decode cX8_frozen 2 = .ok (.iconst 0, 1) := by decide +kernel
theorem dX8_frozen_3 : decode cX8_frozen 3 = .ok (.istore_n 3, 1) := by decide +kernel
theorem dX8_frozen_4 : decode cX8_frozen 4 = .ok (.iload_n 3, 1) := by decide +kernel
theorem dX8_frozen_5 : decode cX8_frozen 5 = .ok (.bipush 8, 2) := by decide +kernel
theorem dX8_frozen_7 : decode cX8_frozen 7 = .ok (.if_icmp .ge 36, 3) := by decide +kernel
theorem dX8_frozen_10 : decode cX8_frozen 10 = .ok (.iload_n 2, 1) := by decide +kernel
theorem dX8_frozen_11 : decode cX8_frozen 11 = .ok (.aload_n 0, 1) := by decide +kernel
theorem dX8_frozen_12 : decode cX8_frozen 12 = .ok (.getfield 7, 3) := by decide +kernel
theorem dX8_frozen_15 : decode cX8_frozen 15 = .ok (.iload_n 1, 1) := by decide +kernel
theorem dX8_frozen_16 : decode cX8_frozen 16 = .ok (.bipush 57, 2) := by decide +kernel
theorem dX8_frozen_18 : decode cX8_frozen 18 = .ok (.imul, 1) := by decide +kernel
theorem dX8_frozen_19 : decode cX8_frozen 19 = .ok (.bipush 32, 2) := by decide +kernel
theorem dX8_frozen_21 : decode cX8_frozen 21 = .ok (.iadd, 1) := by decide +kernel
theorem dX8_frozen_22 : decode cX8_frozen 22 = .ok (.iload_n 3, 1) := by decide +kernel
theorem dX8_frozen_23 : decode cX8_frozen 23 = .ok (.iadd, 1) := by decide +kernel
theorem dX8_frozen_24 : decode cX8_frozen 24 = .ok (.iaload, 1) := by decide +kernel
theorem dX8_frozen_25 : decode cX8_frozen 25 = .ok (.ifCond .le 9, 3) := by decide +kernel
theorem dX8_frozen_28 : decode cX8_frozen 28 = .ok (.iconst 1, 1) := by decide +kernel
theorem dX8_frozen_29 : decode cX8_frozen 29 = .ok (.iload_n 3, 1) := by decide +kernel
theorem dX8_frozen_30 : decode cX8_frozen 30 = .ok (.ishl, 1) := by decide +kernel
theorem dX8_frozen_31 : decode cX8_frozen 31 = .ok (.goto 4, 3) := by decide +kernel
theorem dX8_frozen_34 : decode cX8_frozen 34 = .ok (.iconst 0, 1) := by decide +kernel
theorem dX8_frozen_35 : decode cX8_frozen 35 = .ok (.ior, 1) := by decide +kernel
theorem dX8_frozen_36 : decode cX8_frozen 36 = .ok (.istore_n 2, 1) := by decide +kernel
theorem dX8_frozen_37 : decode cX8_frozen 37 = .ok (.iinc 3 1, 3) := by decide +kernel
theorem dX8_frozen_40 : decode cX8_frozen 40 = .ok (.goto (-36), 3) := by decide +kernel
theorem dX8_frozen_43 : decode cX8_frozen 43 = .ok (.iload_n 2, 1) := by decide +kernel
theorem dX8_frozen_44 : decode cX8_frozen 44 = .ok (.ireturn, 1) := by decide +kernel
theorem lq_X8_cold_0 {w : Cond} (h : w ∈ (wsX8_cold_r1 : List Cond)) : w ∈ wsX8_cold := List.mem_cons_of_mem _ (List.mem_append_left _ (List.mem_append_left _ (h)))
theorem lq_X8_cold_1 {w : Cond} (h : w ∈ (wsX8_cold_r2 : List Cond)) : w ∈ wsX8_cold := List.mem_cons_of_mem _ (List.mem_append_left _ (List.mem_append_right _ (h)))
theorem lt_X8_cold_X8 : ∀ w ∈ wsX80, w ∈ wsX8_cold := fun _ h => List.mem_cons_of_mem _ (List.mem_append_right _ (h))
set_option maxRecDepth 20000 in
theorem ggX8_cold_X8_in : GoodIn wsX8_cold wsX8_in := goodIn_sub (List.forall_mem_cons.mpr ⟨lq_X8_cold_0 (List.mem_of_getElem? (i := 8) rfl), (show ∀ w ∈ ([] : List Cond), w ∈ wsX8_cold from fun _ h => absurd h List.not_mem_nil)⟩) (by decide +kernel)
set_option maxRecDepth 20000 in
theorem gX8_cold_X8_in : GoodIn wsX8_cold (va_wsS RX8 42 yX8_in wsX8_in) := goodIn_app (goodIn_sub (List.forall_mem_cons.mpr ⟨lq_X8_cold_0 (List.mem_of_getElem? (i := 5) rfl), List.forall_mem_cons.mpr ⟨lq_X8_cold_0 (List.mem_of_getElem? (i := 6) rfl), List.forall_mem_cons.mpr ⟨lq_X8_cold_0 (List.mem_of_getElem? (i := 7) rfl), fun _ h => absurd h List.not_mem_nil⟩⟩⟩) (by decide +kernel)) ggX8_cold_X8_in
set_option maxRecDepth 20000 in
theorem ggX8_cold_X8_again : GoodIn wsX8_cold wsX8_again := goodIn_sub (List.forall_mem_cons.mpr ⟨lq_X8_cold_0 (List.mem_of_getElem? (i := 12) rfl), (List.forall_mem_append.mpr ⟨(List.forall_mem_append.mpr ⟨(show ∀ w ∈ (wsX8_again_r1 : List Cond), w ∈ wsX8_cold from List.forall_mem_cons.mpr ⟨lq_X8_cold_0 (List.mem_of_getElem? (i := 13) rfl), List.forall_mem_cons.mpr ⟨lq_X8_cold_0 (List.mem_of_getElem? (i := 14) rfl), List.forall_mem_cons.mpr ⟨lq_X8_cold_0 (List.mem_of_getElem? (i := 15) rfl), List.forall_mem_cons.mpr ⟨lq_X8_cold_0 (List.mem_of_getElem? (i := 7) rfl), List.forall_mem_cons.mpr ⟨lq_X8_cold_0 (List.mem_of_getElem? (i := 16) rfl), List.forall_mem_cons.mpr ⟨lq_X8_cold_0 (List.mem_of_getElem? (i := 0) rfl), List.forall_mem_cons.mpr ⟨lq_X8_cold_0 (List.mem_of_getElem? (i := 17) rfl), List.forall_mem_cons.mpr ⟨lq_X8_cold_0 (List.mem_of_getElem? (i := 18) rfl), List.forall_mem_cons.mpr ⟨lq_X8_cold_0 (List.mem_of_getElem? (i := 19) rfl), List.forall_mem_cons.mpr ⟨lq_X8_cold_0 (List.mem_of_getElem? (i := 20) rfl), List.forall_mem_cons.mpr ⟨lq_X8_cold_0 (List.mem_of_getElem? (i := 21) rfl), List.forall_mem_cons.mpr ⟨lq_X8_cold_0 (List.mem_of_getElem? (i := 22) rfl), List.forall_mem_cons.mpr ⟨lq_X8_cold_0 (List.mem_of_getElem? (i := 23) rfl), List.forall_mem_cons.mpr ⟨lq_X8_cold_1 (List.mem_of_getElem? (i := 0) rfl), List.forall_mem_cons.mpr ⟨lq_X8_cold_1 (List.mem_of_getElem? (i := 1) rfl), List.forall_mem_cons.mpr ⟨lq_X8_cold_1 (List.mem_of_getElem? (i := 2) rfl), List.forall_mem_cons.mpr ⟨lq_X8_cold_1 (List.mem_of_getElem? (i := 3) rfl), List.forall_mem_cons.mpr ⟨lq_X8_cold_1 (List.mem_of_getElem? (i := 4) rfl), List.forall_mem_cons.mpr ⟨lq_X8_cold_1 (List.mem_of_getElem? (i := 5) rfl), List.forall_mem_cons.mpr ⟨lq_X8_cold_1 (List.mem_of_getElem? (i := 6) rfl), List.forall_mem_cons.mpr ⟨lq_X8_cold_1 (List.mem_of_getElem? (i := 7) rfl), List.forall_mem_cons.mpr ⟨lq_X8_cold_1 (List.mem_of_getElem? (i := 8) rfl), List.forall_mem_cons.mpr ⟨lq_X8_cold_1 (List.mem_of_getElem? (i := 9) rfl), List.forall_mem_cons.mpr ⟨lq_X8_cold_1 (List.mem_of_getElem? (i := 10) rfl), fun _ h => absurd h List.not_mem_nil⟩⟩⟩⟩⟩⟩⟩⟩⟩⟩⟩⟩⟩⟩⟩⟩⟩⟩⟩⟩⟩⟩⟩⟩), (show ∀ w ∈ (wsX8_again_r2 : List Cond), w ∈ wsX8_cold from List.forall_mem_cons.mpr ⟨lq_X8_cold_1 (List.mem_of_getElem? (i := 11) rfl), List.forall_mem_cons.mpr ⟨lq_X8_cold_1 (List.mem_of_getElem? (i := 12) rfl), List.forall_mem_cons.mpr ⟨lq_X8_cold_1 (List.mem_of_getElem? (i := 13) rfl), List.forall_mem_cons.mpr ⟨lq_X8_cold_1 (List.mem_of_getElem? (i := 14) rfl), List.forall_mem_cons.mpr ⟨lq_X8_cold_1 (List.mem_of_getElem? (i := 15) rfl), List.forall_mem_cons.mpr ⟨lq_X8_cold_1 (List.mem_of_getElem? (i := 16) rfl), List.forall_mem_cons.mpr ⟨lq_X8_cold_1 (List.mem_of_getElem? (i := 17) rfl), List.forall_mem_cons.mpr ⟨lq_X8_cold_1 (List.mem_of_getElem? (i := 18) rfl), List.forall_mem_cons.mpr ⟨lq_X8_cold_1 (List.mem_of_getElem? (i := 19) rfl), fun _ h => absurd h List.not_mem_nil⟩⟩⟩⟩⟩⟩⟩⟩⟩)⟩), lt_X8_cold_X8⟩)⟩) (by decide +kernel)
set_option maxRecDepth 20000 in
theorem gX8_cold_X8_again : GoodIn wsX8_cold (wsV RX8 162 RX8 yX8_again wsX8_again) := goodIn_app (goodIn_sub (List.forall_mem_cons.mpr ⟨lq_X8_cold_0 (List.mem_of_getElem? (i := 9) rfl), List.forall_mem_cons.mpr ⟨lq_X8_cold_0 (List.mem_of_getElem? (i := 10) rfl), List.forall_mem_cons.mpr ⟨lq_X8_cold_0 (List.mem_of_getElem? (i := 11) rfl), List.forall_mem_cons.mpr ⟨lq_X8_cold_0 (List.mem_of_getElem? (i := 7) rfl), fun _ h => absurd h List.not_mem_nil⟩⟩⟩⟩) (by decide +kernel)) ggX8_cold_X8_again
set_option maxRecDepth 20000 in
theorem ggX8_cold_X8_frozen : GoodIn wsX8_cold wsX8_frozen := goodIn_sub (List.forall_mem_cons.mpr ⟨lq_X8_cold_1 (List.mem_of_getElem? (i := 23) rfl), (List.forall_mem_append.mpr ⟨(show ∀ w ∈ ([.fieldLink RX8 7 "WinterWalkModel" "slot" "[I"] : List Cond), w ∈ wsX8_cold from List.forall_mem_cons.mpr ⟨lq_X8_cold_0 (List.mem_of_getElem? (i := 0) rfl), fun _ h => absurd h List.not_mem_nil⟩), lt_X8_cold_X8⟩)⟩) (by decide +kernel)
set_option maxRecDepth 20000 in
theorem gX8_cold_X8_frozen : GoodIn wsX8_cold (wsV RX8 166 RX8 yX8_frozen wsX8_frozen) := goodIn_app (goodIn_sub (List.forall_mem_cons.mpr ⟨lq_X8_cold_1 (List.mem_of_getElem? (i := 20) rfl), List.forall_mem_cons.mpr ⟨lq_X8_cold_1 (List.mem_of_getElem? (i := 21) rfl), List.forall_mem_cons.mpr ⟨lq_X8_cold_1 (List.mem_of_getElem? (i := 22) rfl), List.forall_mem_cons.mpr ⟨lq_X8_cold_0 (List.mem_of_getElem? (i := 7) rfl), fun _ h => absurd h List.not_mem_nil⟩⟩⟩⟩) (by decide +kernel)) ggX8_cold_X8_frozen
theorem dX8_cold_0 : decode cX8_cold 0 = .ok (.aload_n 0, 1) := by decide +kernel
theorem dX8_cold_1 : decode cX8_cold 1 = .ok (.getfield 7, 3) := by decide +kernel
theorem dX8_cold_4 : decode cX8_cold 4 = .ok (.iconst 1, 1) := by decide +kernel
theorem dX8_cold_5 : decode cX8_cold 5 = .ok (.iaload, 1) := by decide +kernel
theorem dX8_cold_6 : decode cX8_cold 6 = .ok (.ifCond .ne 6, 3) := by decide +kernel
theorem dX8_cold_9 : decode cX8_cold 9 = .ok (.ldc 121, 2) := by decide +kernel
theorem dX8_cold_11 : decode cX8_cold 11 = .ok (.ireturn, 1) := by decide +kernel
theorem dX8_cold_12 : decode cX8_cold 12 = .ok (.iload_n 1, 1) := by decide +kernel
theorem dX8_cold_13 : decode cX8_cold 13 = .ok (.i2l, 1) := by decide +kernel
theorem dX8_cold_14 : decode cX8_cold 14 = .ok (.lconst 0, 1) := by decide +kernel
theorem dX8_cold_15 : decode cX8_cold 15 = .ok (.ldc2_w 160, 3) := by decide +kernel
theorem dX8_cold_18 : decode cX8_cold 18 = .ok (.invokestatic 42, 3) := by decide +kernel
theorem dX8_cold_21 : decode cX8_cold 21 = .ok (.ifCond .eq 15, 3) := by decide +kernel
theorem dX8_cold_24 : decode cX8_cold 24 = .ok (.iload_n 2, 1) := by decide +kernel
theorem dX8_cold_25 : decode cX8_cold 25 = .ok (.i2l, 1) := by decide +kernel
theorem dX8_cold_26 : decode cX8_cold 26 = .ok (.lconst 0, 1) := by decide +kernel
theorem dX8_cold_27 : decode cX8_cold 27 = .ok (.ldc2_w 46, 3) := by decide +kernel
theorem dX8_cold_30 : decode cX8_cold 30 = .ok (.invokestatic 42, 3) := by decide +kernel
theorem dX8_cold_33 : decode cX8_cold 33 = .ok (.ifCond .ne 6, 3) := by decide +kernel
theorem dX8_cold_36 : decode cX8_cold 36 = .ok (.ldc 48, 2) := by decide +kernel
theorem dX8_cold_38 : decode cX8_cold 38 = .ok (.ireturn, 1) := by decide +kernel
theorem dX8_cold_39 : decode cX8_cold 39 = .ok (.aload_n 0, 1) := by decide +kernel
theorem dX8_cold_40 : decode cX8_cold 40 = .ok (.iload_n 1, 1) := by decide +kernel
theorem dX8_cold_41 : decode cX8_cold 41 = .ok (.invokevirtual 162, 3) := by decide +kernel
theorem dX8_cold_44 : decode cX8_cold 44 = .ok (.iload_n 2, 1) := by decide +kernel
theorem dX8_cold_45 : decode cX8_cold 45 = .ok (.ifCond .ne 14, 3) := by decide +kernel
theorem dX8_cold_48 : decode cX8_cold 48 = .ok (.aload_n 0, 1) := by decide +kernel
theorem dX8_cold_49 : decode cX8_cold 49 = .ok (.getfield 7, 3) := by decide +kernel
theorem dX8_cold_52 : decode cX8_cold 52 = .ok (.sipush 1594, 3) := by decide +kernel
theorem dX8_cold_55 : decode cX8_cold 55 = .ok (.iaload, 1) := by decide +kernel
theorem dX8_cold_56 : decode cX8_cold 56 = .ok (.goto 25, 3) := by decide +kernel
theorem dX8_cold_59 : decode cX8_cold 59 = .ok (.iload_n 2, 1) := by decide +kernel
theorem dX8_cold_60 : decode cX8_cold 60 = .ok (.iconst 1, 1) := by decide +kernel
theorem dX8_cold_61 : decode cX8_cold 61 = .ok (.if_icmp .ne 14, 3) := by decide +kernel
theorem dX8_cold_64 : decode cX8_cold 64 = .ok (.aload_n 0, 1) := by decide +kernel
theorem dX8_cold_65 : decode cX8_cold 65 = .ok (.getfield 7, 3) := by decide +kernel
theorem dX8_cold_68 : decode cX8_cold 68 = .ok (.sipush 1595, 3) := by decide +kernel
theorem dX8_cold_71 : decode cX8_cold 71 = .ok (.iaload, 1) := by decide +kernel
theorem dX8_cold_72 : decode cX8_cold 72 = .ok (.goto 9, 3) := by decide +kernel
theorem dX8_cold_75 : decode cX8_cold 75 = .ok (.aload_n 0, 1) := by decide +kernel
theorem dX8_cold_76 : decode cX8_cold 76 = .ok (.bipush 27, 2) := by decide +kernel
theorem dX8_cold_78 : decode cX8_cold 78 = .ok (.invokevirtual 166, 3) := by decide +kernel
theorem dX8_cold_81 : decode cX8_cold 81 = .ok (.ireturn, 1) := by decide +kernel
theorem lq_X8_nights_0 {w : Cond} (h : w ∈ (wsX8_nights_r1 : List Cond)) : w ∈ wsX8_nights := List.mem_cons_of_mem _ (List.mem_append_left _ (List.mem_append_left _ (h)))
theorem lq_X8_nights_1 {w : Cond} (h : w ∈ (wsX8_nights_r2 : List Cond)) : w ∈ wsX8_nights := List.mem_cons_of_mem _ (List.mem_append_left _ (List.mem_append_right _ (h)))
theorem lt_X8_nights_X8 : ∀ w ∈ wsX80, w ∈ wsX8_nights := fun _ h => List.mem_cons_of_mem _ (List.mem_append_right _ (h))
set_option maxRecDepth 20000 in
theorem ggX8_nights_X8_isVillageThere : GoodIn wsX8_nights wsX8_isVillageThere := goodIn_sub (List.forall_mem_cons.mpr ⟨lq_X8_nights_0 (List.mem_of_getElem? (i := 7) rfl), (List.forall_mem_append.mpr ⟨(show ∀ w ∈ ([.fieldLink RX8 7 "WinterWalkModel" "slot" "[I", .methodLink RX8 42 yX8_in, .static yX8_in, .initialized RX8, .code yX8_in cX8_in 6 (some .boolean)] : List Cond), w ∈ wsX8_nights from List.forall_mem_cons.mpr ⟨lq_X8_nights_0 (List.mem_of_getElem? (i := 2) rfl), List.forall_mem_cons.mpr ⟨lq_X8_nights_0 (List.mem_of_getElem? (i := 8) rfl), List.forall_mem_cons.mpr ⟨lq_X8_nights_0 (List.mem_of_getElem? (i := 9) rfl), List.forall_mem_cons.mpr ⟨lq_X8_nights_0 (List.mem_of_getElem? (i := 6) rfl), List.forall_mem_cons.mpr ⟨lq_X8_nights_0 (List.mem_of_getElem? (i := 10) rfl), fun _ h => absurd h List.not_mem_nil⟩⟩⟩⟩⟩), lt_X8_nights_X8⟩)⟩) (by decide +kernel)
set_option maxRecDepth 20000 in
theorem gX8_nights_X8_isVillageThere : GoodIn wsX8_nights (wsV RX8 147 RX8 yX8_isVillageThere wsX8_isVillageThere) := goodIn_app (goodIn_sub (List.forall_mem_cons.mpr ⟨lq_X8_nights_0 (List.mem_of_getElem? (i := 3) rfl), List.forall_mem_cons.mpr ⟨lq_X8_nights_0 (List.mem_of_getElem? (i := 4) rfl), List.forall_mem_cons.mpr ⟨lq_X8_nights_0 (List.mem_of_getElem? (i := 5) rfl), List.forall_mem_cons.mpr ⟨lq_X8_nights_0 (List.mem_of_getElem? (i := 6) rfl), fun _ h => absurd h List.not_mem_nil⟩⟩⟩⟩) (by decide +kernel)) ggX8_nights_X8_isVillageThere
set_option maxRecDepth 20000 in
theorem ggX8_nights_X8_in : GoodIn wsX8_nights wsX8_in := goodIn_sub (List.forall_mem_cons.mpr ⟨lq_X8_nights_0 (List.mem_of_getElem? (i := 10) rfl), (show ∀ w ∈ ([] : List Cond), w ∈ wsX8_nights from fun _ h => absurd h List.not_mem_nil)⟩) (by decide +kernel)
set_option maxRecDepth 20000 in
theorem gX8_nights_X8_in : GoodIn wsX8_nights (va_wsS RX8 42 yX8_in wsX8_in) := goodIn_app (goodIn_sub (List.forall_mem_cons.mpr ⟨lq_X8_nights_0 (List.mem_of_getElem? (i := 8) rfl), List.forall_mem_cons.mpr ⟨lq_X8_nights_0 (List.mem_of_getElem? (i := 9) rfl), List.forall_mem_cons.mpr ⟨lq_X8_nights_0 (List.mem_of_getElem? (i := 6) rfl), fun _ h => absurd h List.not_mem_nil⟩⟩⟩) (by decide +kernel)) ggX8_nights_X8_in
set_option maxRecDepth 20000 in
theorem ggX8_nights_X8_again : GoodIn wsX8_nights wsX8_again := goodIn_sub (List.forall_mem_cons.mpr ⟨lq_X8_nights_0 (List.mem_of_getElem? (i := 14) rfl), (List.forall_mem_append.mpr ⟨(List.forall_mem_append.mpr ⟨(show ∀ w ∈ (wsX8_again_r1 : List Cond), w ∈ wsX8_nights from List.forall_mem_cons.mpr ⟨lq_X8_nights_0 (List.mem_of_getElem? (i := 15) rfl), List.forall_mem_cons.mpr ⟨lq_X8_nights_0 (List.mem_of_getElem? (i := 16) rfl), List.forall_mem_cons.mpr ⟨lq_X8_nights_0 (List.mem_of_getElem? (i := 17) rfl), List.forall_mem_cons.mpr ⟨lq_X8_nights_0 (List.mem_of_getElem? (i := 6) rfl), List.forall_mem_cons.mpr ⟨lq_X8_nights_0 (List.mem_of_getElem? (i := 18) rfl), List.forall_mem_cons.mpr ⟨lq_X8_nights_0 (List.mem_of_getElem? (i := 2) rfl), List.forall_mem_cons.mpr ⟨lq_X8_nights_0 (List.mem_of_getElem? (i := 19) rfl), List.forall_mem_cons.mpr ⟨lq_X8_nights_0 (List.mem_of_getElem? (i := 20) rfl), List.forall_mem_cons.mpr ⟨lq_X8_nights_0 (List.mem_of_getElem? (i := 21) rfl), List.forall_mem_cons.mpr ⟨lq_X8_nights_0 (List.mem_of_getElem? (i := 22) rfl), List.forall_mem_cons.mpr ⟨lq_X8_nights_0 (List.mem_of_getElem? (i := 23) rfl), List.forall_mem_cons.mpr ⟨lq_X8_nights_1 (List.mem_of_getElem? (i := 0) rfl), List.forall_mem_cons.mpr ⟨lq_X8_nights_1 (List.mem_of_getElem? (i := 1) rfl), List.forall_mem_cons.mpr ⟨lq_X8_nights_1 (List.mem_of_getElem? (i := 2) rfl), List.forall_mem_cons.mpr ⟨lq_X8_nights_1 (List.mem_of_getElem? (i := 3) rfl), List.forall_mem_cons.mpr ⟨lq_X8_nights_1 (List.mem_of_getElem? (i := 4) rfl), List.forall_mem_cons.mpr ⟨lq_X8_nights_1 (List.mem_of_getElem? (i := 5) rfl), List.forall_mem_cons.mpr ⟨lq_X8_nights_1 (List.mem_of_getElem? (i := 6) rfl), List.forall_mem_cons.mpr ⟨lq_X8_nights_1 (List.mem_of_getElem? (i := 7) rfl), List.forall_mem_cons.mpr ⟨lq_X8_nights_1 (List.mem_of_getElem? (i := 8) rfl), List.forall_mem_cons.mpr ⟨lq_X8_nights_1 (List.mem_of_getElem? (i := 9) rfl), List.forall_mem_cons.mpr ⟨lq_X8_nights_1 (List.mem_of_getElem? (i := 10) rfl), List.forall_mem_cons.mpr ⟨lq_X8_nights_1 (List.mem_of_getElem? (i := 11) rfl), List.forall_mem_cons.mpr ⟨lq_X8_nights_1 (List.mem_of_getElem? (i := 12) rfl), fun _ h => absurd h List.not_mem_nil⟩⟩⟩⟩⟩⟩⟩⟩⟩⟩⟩⟩⟩⟩⟩⟩⟩⟩⟩⟩⟩⟩⟩⟩), (show ∀ w ∈ (wsX8_again_r2 : List Cond), w ∈ wsX8_nights from List.forall_mem_cons.mpr ⟨lq_X8_nights_1 (List.mem_of_getElem? (i := 13) rfl), List.forall_mem_cons.mpr ⟨lq_X8_nights_1 (List.mem_of_getElem? (i := 14) rfl), List.forall_mem_cons.mpr ⟨lq_X8_nights_1 (List.mem_of_getElem? (i := 15) rfl), List.forall_mem_cons.mpr ⟨lq_X8_nights_1 (List.mem_of_getElem? (i := 16) rfl), List.forall_mem_cons.mpr ⟨lq_X8_nights_1 (List.mem_of_getElem? (i := 17) rfl), List.forall_mem_cons.mpr ⟨lq_X8_nights_1 (List.mem_of_getElem? (i := 18) rfl), List.forall_mem_cons.mpr ⟨lq_X8_nights_1 (List.mem_of_getElem? (i := 19) rfl), List.forall_mem_cons.mpr ⟨lq_X8_nights_1 (List.mem_of_getElem? (i := 20) rfl), List.forall_mem_cons.mpr ⟨lq_X8_nights_1 (List.mem_of_getElem? (i := 21) rfl), fun _ h => absurd h List.not_mem_nil⟩⟩⟩⟩⟩⟩⟩⟩⟩)⟩), lt_X8_nights_X8⟩)⟩) (by decide +kernel)
set_option maxRecDepth 20000 in
theorem gX8_nights_X8_again : GoodIn wsX8_nights (wsV RX8 162 RX8 yX8_again wsX8_again) := goodIn_app (goodIn_sub (List.forall_mem_cons.mpr ⟨lq_X8_nights_0 (List.mem_of_getElem? (i := 11) rfl), List.forall_mem_cons.mpr ⟨lq_X8_nights_0 (List.mem_of_getElem? (i := 12) rfl), List.forall_mem_cons.mpr ⟨lq_X8_nights_0 (List.mem_of_getElem? (i := 13) rfl), List.forall_mem_cons.mpr ⟨lq_X8_nights_0 (List.mem_of_getElem? (i := 6) rfl), fun _ h => absurd h List.not_mem_nil⟩⟩⟩⟩) (by decide +kernel)) ggX8_nights_X8_again
theorem dX8_nights_0 : decode cX8_nights 0 = .ok (.aload_n 0, 1) := by decide +kernel
theorem dX8_nights_1 : decode cX8_nights 1 = .ok (.iload_n 1, 1) := by decide +kernel
theorem dX8_nights_2 : decode cX8_nights 2 = .ok (.invokevirtual 147, 3) := by decide +kernel
theorem dX8_nights_5 : decode cX8_nights 5 = .ok (.ifCond .eq 15, 3) := by decide +kernel
theorem dX8_nights_8 : decode cX8_nights 8 = .ok (.iload_n 2, 1) := by decide +kernel
theorem dX8_nights_9 : decode cX8_nights 9 = .ok (.i2l, 1) := by decide +kernel
theorem dX8_nights_10 : decode cX8_nights 10 = .ok (.lconst 0, 1) := by decide +kernel
theorem dX8_nights_11 : decode cX8_nights 11 = .ok (.ldc2_w 160, 3) := by decide +kernel
theorem dX8_nights_14 : decode cX8_nights 14 = .ok (.invokestatic 42, 3) := by decide +kernel
theorem dX8_nights_17 : decode cX8_nights 17 = .ok (.ifCond .ne 6, 3) := by decide +kernel
theorem dX8_nights_20 : decode cX8_nights 20 = .ok (.ldc 48, 2) := by decide +kernel
theorem dX8_nights_22 : decode cX8_nights 22 = .ok (.ireturn, 1) := by decide +kernel
theorem dX8_nights_23 : decode cX8_nights 23 = .ok (.aload_n 0, 1) := by decide +kernel
theorem dX8_nights_24 : decode cX8_nights 24 = .ok (.iload_n 2, 1) := by decide +kernel
theorem dX8_nights_25 : decode cX8_nights 25 = .ok (.invokevirtual 162, 3) := by decide +kernel
theorem dX8_nights_28 : decode cX8_nights 28 = .ok (.aload_n 0, 1) := by decide +kernel
