theorem dX8_nights_29 : decode cX8_nights 29 = .ok (.getfield 7, 3) := by decide +kernel
theorem dX8_nights_32 : decode cX8_nights 32 = .ok (.sipush 1579, 3) := by decide +kernel
theorem dX8_nights_35 : decode cX8_nights 35 = .ok (.iload_n 1, 1) := by decide +kernel
theorem dX8_nights_36 : decode cX8_nights 36 = .ok (.iadd, 1) := by decide +kernel
theorem dX8_nights_37 : decode cX8_nights 37 = .ok (.iaload, 1) := by decide +kernel
theorem dX8_nights_38 : decode cX8_nights 38 = .ok (.ireturn, 1) := by decide +kernel
theorem lq_X8_freezesOf_0 {w : Cond} (h : w ∈ (wsX8_freezesOf_r1 : List Cond)) : w ∈ wsX8_freezesOf := List.mem_cons_of_mem _ (List.mem_append_left _ (List.mem_append_left _ (h)))
theorem lq_X8_freezesOf_1 {w : Cond} (h : w ∈ (wsX8_freezesOf_r2 : List Cond)) : w ∈ wsX8_freezesOf := List.mem_cons_of_mem _ (List.mem_append_left _ (List.mem_append_right _ (h)))
theorem lt_X8_freezesOf_X8 : ∀ w ∈ wsX80, w ∈ wsX8_freezesOf := fun _ h => List.mem_cons_of_mem _ (List.mem_append_right _ (h))
set_option maxRecDepth 20000 in
theorem ggX8_freezesOf_X8_copies : GoodIn wsX8_freezesOf wsX8_copies := goodIn_sub (List.forall_mem_cons.mpr ⟨lq_X8_freezesOf_0 (List.mem_of_getElem? (i := 6) rfl), (List.forall_mem_append.mpr ⟨(show ∀ w ∈ ([.fieldLink RX8 7 "WinterWalkModel" "slot" "[I"] : List Cond), w ∈ wsX8_freezesOf from List.forall_mem_cons.mpr ⟨lq_X8_freezesOf_0 (List.mem_of_getElem? (i := 0) rfl), fun _ h => absurd h List.not_mem_nil⟩), lt_X8_freezesOf_X8⟩)⟩) (by decide +kernel)
set_option maxRecDepth 20000 in
theorem gX8_freezesOf_X8_copies : GoodIn wsX8_freezesOf (wsV RX8 114 RX8 yX8_copies wsX8_copies) := goodIn_app (goodIn_sub (List.forall_mem_cons.mpr ⟨lq_X8_freezesOf_0 (List.mem_of_getElem? (i := 2) rfl), List.forall_mem_cons.mpr ⟨lq_X8_freezesOf_0 (List.mem_of_getElem? (i := 3) rfl), List.forall_mem_cons.mpr ⟨lq_X8_freezesOf_0 (List.mem_of_getElem? (i := 4) rfl), List.forall_mem_cons.mpr ⟨lq_X8_freezesOf_0 (List.mem_of_getElem? (i := 5) rfl), fun _ h => absurd h List.not_mem_nil⟩⟩⟩⟩) (by decide +kernel)) ggX8_freezesOf_X8_copies
set_option maxRecDepth 20000 in
theorem ggX8_freezesOf_X8_day : GoodIn wsX8_freezesOf wsX8_day := goodIn_sub (List.forall_mem_cons.mpr ⟨lq_X8_freezesOf_0 (List.mem_of_getElem? (i := 10) rfl), (List.forall_mem_append.mpr ⟨(List.forall_mem_append.mpr ⟨(show ∀ w ∈ (wsX8_day_r1 : List Cond), w ∈ wsX8_freezesOf from List.forall_mem_cons.mpr ⟨lq_X8_freezesOf_0 (List.mem_of_getElem? (i := 0) rfl), List.forall_mem_cons.mpr ⟨lq_X8_freezesOf_0 (List.mem_of_getElem? (i := 11) rfl), List.forall_mem_cons.mpr ⟨lq_X8_freezesOf_0 (List.mem_of_getElem? (i := 12) rfl), List.forall_mem_cons.mpr ⟨lq_X8_freezesOf_0 (List.mem_of_getElem? (i := 13) rfl), List.forall_mem_cons.mpr ⟨lq_X8_freezesOf_0 (List.mem_of_getElem? (i := 5) rfl), List.forall_mem_cons.mpr ⟨lq_X8_freezesOf_0 (List.mem_of_getElem? (i := 14) rfl), List.forall_mem_cons.mpr ⟨lq_X8_freezesOf_0 (List.mem_of_getElem? (i := 15) rfl), List.forall_mem_cons.mpr ⟨lq_X8_freezesOf_0 (List.mem_of_getElem? (i := 16) rfl), List.forall_mem_cons.mpr ⟨lq_X8_freezesOf_0 (List.mem_of_getElem? (i := 17) rfl), List.forall_mem_cons.mpr ⟨lq_X8_freezesOf_0 (List.mem_of_getElem? (i := 18) rfl), List.forall_mem_cons.mpr ⟨lq_X8_freezesOf_0 (List.mem_of_getElem? (i := 19) rfl), List.forall_mem_cons.mpr ⟨lq_X8_freezesOf_0 (List.mem_of_getElem? (i := 20) rfl), List.forall_mem_cons.mpr ⟨lq_X8_freezesOf_0 (List.mem_of_getElem? (i := 21) rfl), List.forall_mem_cons.mpr ⟨lq_X8_freezesOf_0 (List.mem_of_getElem? (i := 22) rfl), List.forall_mem_cons.mpr ⟨lq_X8_freezesOf_0 (List.mem_of_getElem? (i := 23) rfl), List.forall_mem_cons.mpr ⟨lq_X8_freezesOf_1 (List.mem_of_getElem? (i := 0) rfl), List.forall_mem_cons.mpr ⟨lq_X8_freezesOf_1 (List.mem_of_getElem? (i := 1) rfl), List.forall_mem_cons.mpr ⟨lq_X8_freezesOf_1 (List.mem_of_getElem? (i := 2) rfl), List.forall_mem_cons.mpr ⟨lq_X8_freezesOf_1 (List.mem_of_getElem? (i := 3) rfl), List.forall_mem_cons.mpr ⟨lq_X8_freezesOf_1 (List.mem_of_getElem? (i := 4) rfl), List.forall_mem_cons.mpr ⟨lq_X8_freezesOf_1 (List.mem_of_getElem? (i := 5) rfl), List.forall_mem_cons.mpr ⟨lq_X8_freezesOf_1 (List.mem_of_getElem? (i := 6) rfl), List.forall_mem_cons.mpr ⟨lq_X8_freezesOf_1 (List.mem_of_getElem? (i := 7) rfl), List.forall_mem_cons.mpr ⟨lq_X8_freezesOf_1 (List.mem_of_getElem? (i := 8) rfl), fun _ h => absurd h List.not_mem_nil⟩⟩⟩⟩⟩⟩⟩⟩⟩⟩⟩⟩⟩⟩⟩⟩⟩⟩⟩⟩⟩⟩⟩⟩), (show ∀ w ∈ (wsX8_day_r2 : List Cond), w ∈ wsX8_freezesOf from List.forall_mem_cons.mpr ⟨lq_X8_freezesOf_1 (List.mem_of_getElem? (i := 9) rfl), fun _ h => absurd h List.not_mem_nil⟩)⟩), lt_X8_freezesOf_X8⟩)⟩) (by decide +kernel)
set_option maxRecDepth 20000 in
theorem gX8_freezesOf_X8_day : GoodIn wsX8_freezesOf (wsV RX8 139 RX8 yX8_day wsX8_day) := goodIn_app (goodIn_sub (List.forall_mem_cons.mpr ⟨lq_X8_freezesOf_0 (List.mem_of_getElem? (i := 7) rfl), List.forall_mem_cons.mpr ⟨lq_X8_freezesOf_0 (List.mem_of_getElem? (i := 8) rfl), List.forall_mem_cons.mpr ⟨lq_X8_freezesOf_0 (List.mem_of_getElem? (i := 9) rfl), List.forall_mem_cons.mpr ⟨lq_X8_freezesOf_0 (List.mem_of_getElem? (i := 5) rfl), fun _ h => absurd h List.not_mem_nil⟩⟩⟩⟩) (by decide +kernel)) ggX8_freezesOf_X8_day
theorem dX8_freezesOf_0 : decode cX8_freezesOf 0 = .ok (.aload_n 0, 1) := by decide +kernel
theorem dX8_freezesOf_1 : decode cX8_freezesOf 1 = .ok (.iconst 0, 1) := by decide +kernel
theorem dX8_freezesOf_2 : decode cX8_freezesOf 2 = .ok (.bipush 27, 2) := by decide +kernel
theorem dX8_freezesOf_4 : decode cX8_freezesOf 4 = .ok (.invokevirtual 114, 3) := by decide +kernel
theorem dX8_freezesOf_7 : decode cX8_freezesOf 7 = .ok (.iconst 0, 1) := by decide +kernel
theorem dX8_freezesOf_8 : decode cX8_freezesOf 8 = .ok (.istore_n 3, 1) := by decide +kernel
theorem dX8_freezesOf_9 : decode cX8_freezesOf 9 = .ok (.iload_n 3, 1) := by decide +kernel
theorem dX8_freezesOf_10 : decode cX8_freezesOf 10 = .ok (.iload_n 2, 1) := by decide +kernel
theorem dX8_freezesOf_11 : decode cX8_freezesOf 11 = .ok (.if_icmp .ge 31, 3) := by decide +kernel
theorem dX8_freezesOf_14 : decode cX8_freezesOf 14 = .ok (.aload_n 0, 1) := by decide +kernel
theorem dX8_freezesOf_15 : decode cX8_freezesOf 15 = .ok (.bipush 27, 2) := by decide +kernel
theorem dX8_freezesOf_17 : decode cX8_freezesOf 17 = .ok (.iconst (-1), 1) := by decide +kernel
theorem dX8_freezesOf_18 : decode cX8_freezesOf 18 = .ok (.invokevirtual 139, 3) := by decide +kernel
theorem dX8_freezesOf_21 : decode cX8_freezesOf 21 = .ok (.aload_n 0, 1) := by decide +kernel
theorem dX8_freezesOf_22 : decode cX8_freezesOf 22 = .ok (.getfield 7, 3) := by decide +kernel
theorem dX8_freezesOf_25 : decode cX8_freezesOf 25 = .ok (.sipush 1571, 3) := by decide +kernel
theorem dX8_freezesOf_28 : decode cX8_freezesOf 28 = .ok (.iload_n 1, 1) := by decide +kernel
theorem dX8_freezesOf_29 : decode cX8_freezesOf 29 = .ok (.iadd, 1) := by decide +kernel
theorem dX8_freezesOf_30 : decode cX8_freezesOf 30 = .ok (.iaload, 1) := by decide +kernel
theorem dX8_freezesOf_31 : decode cX8_freezesOf 31 = .ok (.ifCond .le 5, 3) := by decide +kernel
theorem dX8_freezesOf_34 : decode cX8_freezesOf 34 = .ok (.iload_n 3, 1) := by decide +kernel
theorem dX8_freezesOf_35 : decode cX8_freezesOf 35 = .ok (.ireturn, 1) := by decide +kernel
theorem dX8_freezesOf_36 : decode cX8_freezesOf 36 = .ok (.iinc 3 1, 3) := by decide +kernel
theorem dX8_freezesOf_39 : decode cX8_freezesOf 39 = .ok (.goto (-30), 3) := by decide +kernel
theorem dX8_freezesOf_42 : decode cX8_freezesOf 42 = .ok (.ldc 99, 2) := by decide +kernel
theorem dX8_freezesOf_44 : decode cX8_freezesOf 44 = .ok (.ireturn, 1) := by decide +kernel
theorem lq_X8_freezes_0 {w : Cond} (h : w ∈ (wsX8_freezes_r1 : List Cond)) : w ∈ wsX8_freezes := List.mem_cons_of_mem _ (List.mem_append_left _ (List.mem_append_left _ (h)))
theorem lq_X8_freezes_1 {w : Cond} (h : w ∈ (wsX8_freezes_r2 : List Cond)) : w ∈ wsX8_freezes := List.mem_cons_of_mem _ (List.mem_append_left _ (List.mem_append_right _ (h)))
theorem lt_X8_freezes_X8 : ∀ w ∈ wsX80, w ∈ wsX8_freezes := fun _ h => List.mem_cons_of_mem _ (List.mem_append_right _ (h))
set_option maxRecDepth 20000 in
theorem ggX8_freezes_X8_isVillageThere : GoodIn wsX8_freezes wsX8_isVillageThere := goodIn_sub (List.forall_mem_cons.mpr ⟨lq_X8_freezes_0 (List.mem_of_getElem? (i := 6) rfl), (List.forall_mem_append.mpr ⟨(show ∀ w ∈ ([.fieldLink RX8 7 "WinterWalkModel" "slot" "[I", .methodLink RX8 42 yX8_in, .static yX8_in, .initialized RX8, .code yX8_in cX8_in 6 (some .boolean)] : List Cond), w ∈ wsX8_freezes from List.forall_mem_cons.mpr ⟨lq_X8_freezes_0 (List.mem_of_getElem? (i := 7) rfl), List.forall_mem_cons.mpr ⟨lq_X8_freezes_0 (List.mem_of_getElem? (i := 8) rfl), List.forall_mem_cons.mpr ⟨lq_X8_freezes_0 (List.mem_of_getElem? (i := 9) rfl), List.forall_mem_cons.mpr ⟨lq_X8_freezes_0 (List.mem_of_getElem? (i := 5) rfl), List.forall_mem_cons.mpr ⟨lq_X8_freezes_0 (List.mem_of_getElem? (i := 10) rfl), fun _ h => absurd h List.not_mem_nil⟩⟩⟩⟩⟩), lt_X8_freezes_X8⟩)⟩) (by decide +kernel)
set_option maxRecDepth 20000 in
theorem gX8_freezes_X8_isVillageThere : GoodIn wsX8_freezes (wsV RX8 147 RX8 yX8_isVillageThere wsX8_isVillageThere) := goodIn_app (goodIn_sub (List.forall_mem_cons.mpr ⟨lq_X8_freezes_0 (List.mem_of_getElem? (i := 2) rfl), List.forall_mem_cons.mpr ⟨lq_X8_freezes_0 (List.mem_of_getElem? (i := 3) rfl), List.forall_mem_cons.mpr ⟨lq_X8_freezes_0 (List.mem_of_getElem? (i := 4) rfl), List.forall_mem_cons.mpr ⟨lq_X8_freezes_0 (List.mem_of_getElem? (i := 5) rfl), fun _ h => absurd h List.not_mem_nil⟩⟩⟩⟩) (by decide +kernel)) ggX8_freezes_X8_isVillageThere
set_option maxRecDepth 20000 in
theorem ggX8_freezes_X8_in : GoodIn wsX8_freezes wsX8_in := goodIn_sub (List.forall_mem_cons.mpr ⟨lq_X8_freezes_0 (List.mem_of_getElem? (i := 10) rfl), (show ∀ w ∈ ([] : List Cond), w ∈ wsX8_freezes from fun _ h => absurd h List.not_mem_nil)⟩) (by decide +kernel)
set_option maxRecDepth 20000 in
theorem gX8_freezes_X8_in : GoodIn wsX8_freezes (va_wsS RX8 42 yX8_in wsX8_in) := goodIn_app (goodIn_sub (List.forall_mem_cons.mpr ⟨lq_X8_freezes_0 (List.mem_of_getElem? (i := 8) rfl), List.forall_mem_cons.mpr ⟨lq_X8_freezes_0 (List.mem_of_getElem? (i := 9) rfl), List.forall_mem_cons.mpr ⟨lq_X8_freezes_0 (List.mem_of_getElem? (i := 5) rfl), fun _ h => absurd h List.not_mem_nil⟩⟩⟩) (by decide +kernel)) ggX8_freezes_X8_in
set_option maxRecDepth 20000 in
theorem ggX8_freezes_X8_freezesOf : GoodIn wsX8_freezes wsX8_freezesOf := goodIn_sub (List.forall_mem_cons.mpr ⟨lq_X8_freezes_0 (List.mem_of_getElem? (i := 14) rfl), (List.forall_mem_append.mpr ⟨(List.forall_mem_append.mpr ⟨(show ∀ w ∈ (wsX8_freezesOf_r1 : List Cond), w ∈ wsX8_freezes from List.forall_mem_cons.mpr ⟨lq_X8_freezes_0 (List.mem_of_getElem? (i := 7) rfl), List.forall_mem_cons.mpr ⟨lq_X8_freezes_0 (List.mem_of_getElem? (i := 15) rfl), List.forall_mem_cons.mpr ⟨lq_X8_freezes_0 (List.mem_of_getElem? (i := 16) rfl), List.forall_mem_cons.mpr ⟨lq_X8_freezes_0 (List.mem_of_getElem? (i := 17) rfl), List.forall_mem_cons.mpr ⟨lq_X8_freezes_0 (List.mem_of_getElem? (i := 18) rfl), List.forall_mem_cons.mpr ⟨lq_X8_freezes_0 (List.mem_of_getElem? (i := 5) rfl), List.forall_mem_cons.mpr ⟨lq_X8_freezes_0 (List.mem_of_getElem? (i := 19) rfl), List.forall_mem_cons.mpr ⟨lq_X8_freezes_0 (List.mem_of_getElem? (i := 20) rfl), List.forall_mem_cons.mpr ⟨lq_X8_freezes_0 (List.mem_of_getElem? (i := 21) rfl), List.forall_mem_cons.mpr ⟨lq_X8_freezes_0 (List.mem_of_getElem? (i := 22) rfl), List.forall_mem_cons.mpr ⟨lq_X8_freezes_0 (List.mem_of_getElem? (i := 23) rfl), List.forall_mem_cons.mpr ⟨lq_X8_freezes_1 (List.mem_of_getElem? (i := 0) rfl), List.forall_mem_cons.mpr ⟨lq_X8_freezes_1 (List.mem_of_getElem? (i := 1) rfl), List.forall_mem_cons.mpr ⟨lq_X8_freezes_1 (List.mem_of_getElem? (i := 2) rfl), List.forall_mem_cons.mpr ⟨lq_X8_freezes_1 (List.mem_of_getElem? (i := 3) rfl), List.forall_mem_cons.mpr ⟨lq_X8_freezes_1 (List.mem_of_getElem? (i := 4) rfl), List.forall_mem_cons.mpr ⟨lq_X8_freezes_1 (List.mem_of_getElem? (i := 5) rfl), List.forall_mem_cons.mpr ⟨lq_X8_freezes_1 (List.mem_of_getElem? (i := 6) rfl), List.forall_mem_cons.mpr ⟨lq_X8_freezes_1 (List.mem_of_getElem? (i := 7) rfl), List.forall_mem_cons.mpr ⟨lq_X8_freezes_1 (List.mem_of_getElem? (i := 8) rfl), List.forall_mem_cons.mpr ⟨lq_X8_freezes_1 (List.mem_of_getElem? (i := 9) rfl), List.forall_mem_cons.mpr ⟨lq_X8_freezes_1 (List.mem_of_getElem? (i := 10) rfl), List.forall_mem_cons.mpr ⟨lq_X8_freezes_1 (List.mem_of_getElem? (i := 11) rfl), List.forall_mem_cons.mpr ⟨lq_X8_freezes_1 (List.mem_of_getElem? (i := 12) rfl), fun _ h => absurd h List.not_mem_nil⟩⟩⟩⟩⟩⟩⟩⟩⟩⟩⟩⟩⟩⟩⟩⟩⟩⟩⟩⟩⟩⟩⟩⟩), (show ∀ w ∈ (wsX8_freezesOf_r2 : List Cond), w ∈ wsX8_freezes from List.forall_mem_cons.mpr ⟨lq_X8_freezes_1 (List.mem_of_getElem? (i := 13) rfl), List.forall_mem_cons.mpr ⟨lq_X8_freezes_1 (List.mem_of_getElem? (i := 14) rfl), List.forall_mem_cons.mpr ⟨lq_X8_freezes_1 (List.mem_of_getElem? (i := 15) rfl), List.forall_mem_cons.mpr ⟨lq_X8_freezes_1 (List.mem_of_getElem? (i := 16) rfl), List.forall_mem_cons.mpr ⟨lq_X8_freezes_1 (List.mem_of_getElem? (i := 17) rfl), List.forall_mem_cons.mpr ⟨lq_X8_freezes_1 (List.mem_of_getElem? (i := 18) rfl), List.forall_mem_cons.mpr ⟨lq_X8_freezes_1 (List.mem_of_getElem? (i := 19) rfl), List.forall_mem_cons.mpr ⟨lq_X8_freezes_1 (List.mem_of_getElem? (i := 20) rfl), List.forall_mem_cons.mpr ⟨lq_X8_freezes_1 (List.mem_of_getElem? (i := 21) rfl), List.forall_mem_cons.mpr ⟨lq_X8_freezes_1 (List.mem_of_getElem? (i := 22) rfl), fun _ h => absurd h List.not_mem_nil⟩⟩⟩⟩⟩⟩⟩⟩⟩⟩)⟩), lt_X8_freezes_X8⟩)⟩) (by decide +kernel)
set_option maxRecDepth 20000 in
theorem gX8_freezes_X8_freezesOf : GoodIn wsX8_freezes (wsV RX8 169 RX8 yX8_freezesOf wsX8_freezesOf) := goodIn_app (goodIn_sub (List.forall_mem_cons.mpr ⟨lq_X8_freezes_0 (List.mem_of_getElem? (i := 11) rfl), List.forall_mem_cons.mpr ⟨lq_X8_freezes_0 (List.mem_of_getElem? (i := 12) rfl), List.forall_mem_cons.mpr ⟨lq_X8_freezes_0 (List.mem_of_getElem? (i := 13) rfl), List.forall_mem_cons.mpr ⟨lq_X8_freezes_0 (List.mem_of_getElem? (i := 5) rfl), fun _ h => absurd h List.not_mem_nil⟩⟩⟩⟩) (by decide +kernel)) ggX8_freezes_X8_freezesOf
theorem dX8_freezes_0 : decode cX8_freezes 0 = .ok (.aload_n 0, 1) := by decide +kernel
theorem dX8_freezes_1 : decode cX8_freezes 1 = .ok (.iload_n 1, 1) := by decide +kernel
theorem dX8_freezes_2 : decode cX8_freezes 2 = .ok (.invokevirtual 147, 3) := by decide +kernel
theorem dX8_freezes_5 : decode cX8_freezes 5 = .ok (.ifCond .eq 24, 3) := by decide +kernel
theorem dX8_freezes_8 : decode cX8_freezes 8 = .ok (.iload_n 2, 1) := by decide +kernel
theorem dX8_freezes_9 : decode cX8_freezes 9 = .ok (.i2l, 1) := by decide +kernel
theorem dX8_freezes_10 : decode cX8_freezes 10 = .ok (.lconst 1, 1) := by decide +kernel
theorem dX8_freezes_11 : decode cX8_freezes 11 = .ok (.ldc2_w 160, 3) := by decide +kernel
theorem dX8_freezes_14 : decode cX8_freezes 14 = .ok (.invokestatic 42, 3) := by decide +kernel
theorem dX8_freezes_17 : decode cX8_freezes 17 = .ok (.ifCond .eq 12, 3) := by decide +kernel
theorem dX8_freezes_20 : decode cX8_freezes 20 = .ok (.aload_n 0, 1) := by decide +kernel
theorem dX8_freezes_21 : decode cX8_freezes 21 = .ok (.iload_n 1, 1) := by decide +kernel
theorem dX8_freezes_22 : decode cX8_freezes 22 = .ok (.iload_n 2, 1) := by decide +kernel
theorem dX8_freezes_23 : decode cX8_freezes 23 = .ok (.invokevirtual 169, 3) := by decide +kernel
theorem dX8_freezes_26 : decode cX8_freezes 26 = .ok (.goto 5, 3) := by decide +kernel
theorem dX8_freezes_29 : decode cX8_freezes 29 = .ok (.ldc 48, 2) := by decide +kernel
theorem dX8_freezes_31 : decode cX8_freezes 31 = .ok (.ireturn, 1) := by decide +kernel
theorem lq_X8_warn_0 {w : Cond} (h : w ∈ (wsX8_warn_r1 : List Cond)) : w ∈ wsX8_warn := List.mem_cons_of_mem _ (List.mem_append_left _ (List.mem_append_left _ (h)))
theorem lq_X8_warn_1 {w : Cond} (h : w ∈ (wsX8_warn_r2 : List Cond)) : w ∈ wsX8_warn := List.mem_cons_of_mem _ (List.mem_append_left _ (List.mem_append_right _ (h)))
theorem lt_X8_warn_X8 : ∀ w ∈ wsX80, w ∈ wsX8_warn := fun _ h => List.mem_cons_of_mem _ (List.mem_append_right _ (h))
set_option maxRecDepth 20000 in
theorem ggX8_warn_X8_in : GoodIn wsX8_warn wsX8_in := goodIn_sub (List.forall_mem_cons.mpr ⟨lq_X8_warn_0 (List.mem_of_getElem? (i := 10) rfl), (show ∀ w ∈ ([] : List Cond), w ∈ wsX8_warn from fun _ h => absurd h List.not_mem_nil)⟩) (by decide +kernel)
set_option maxRecDepth 20000 in
theorem gX8_warn_X8_in : GoodIn wsX8_warn (va_wsS RX8 42 yX8_in wsX8_in) := goodIn_app (goodIn_sub (List.forall_mem_cons.mpr ⟨lq_X8_warn_0 (List.mem_of_getElem? (i := 7) rfl), List.forall_mem_cons.mpr ⟨lq_X8_warn_0 (List.mem_of_getElem? (i := 8) rfl), List.forall_mem_cons.mpr ⟨lq_X8_warn_0 (List.mem_of_getElem? (i := 9) rfl), fun _ h => absurd h List.not_mem_nil⟩⟩⟩) (by decide +kernel)) ggX8_warn_X8_in
set_option maxRecDepth 20000 in
theorem ggX8_warn_X8_freezesOf : GoodIn wsX8_warn wsX8_freezesOf := goodIn_sub (List.forall_mem_cons.mpr ⟨lq_X8_warn_0 (List.mem_of_getElem? (i := 14) rfl), (List.forall_mem_append.mpr ⟨(List.forall_mem_append.mpr ⟨(show ∀ w ∈ (wsX8_freezesOf_r1 : List Cond), w ∈ wsX8_warn from List.forall_mem_cons.mpr ⟨lq_X8_warn_0 (List.mem_of_getElem? (i := 0) rfl), List.forall_mem_cons.mpr ⟨lq_X8_warn_0 (List.mem_of_getElem? (i := 6) rfl), List.forall_mem_cons.mpr ⟨lq_X8_warn_0 (List.mem_of_getElem? (i := 15) rfl), List.forall_mem_cons.mpr ⟨lq_X8_warn_0 (List.mem_of_getElem? (i := 16) rfl), List.forall_mem_cons.mpr ⟨lq_X8_warn_0 (List.mem_of_getElem? (i := 17) rfl), List.forall_mem_cons.mpr ⟨lq_X8_warn_0 (List.mem_of_getElem? (i := 9) rfl), List.forall_mem_cons.mpr ⟨lq_X8_warn_0 (List.mem_of_getElem? (i := 18) rfl), List.forall_mem_cons.mpr ⟨lq_X8_warn_0 (List.mem_of_getElem? (i := 19) rfl), List.forall_mem_cons.mpr ⟨lq_X8_warn_0 (List.mem_of_getElem? (i := 20) rfl), List.forall_mem_cons.mpr ⟨lq_X8_warn_0 (List.mem_of_getElem? (i := 21) rfl), List.forall_mem_cons.mpr ⟨lq_X8_warn_0 (List.mem_of_getElem? (i := 22) rfl), List.forall_mem_cons.mpr ⟨lq_X8_warn_0 (List.mem_of_getElem? (i := 23) rfl), List.forall_mem_cons.mpr ⟨lq_X8_warn_1 (List.mem_of_getElem? (i := 0) rfl), List.forall_mem_cons.mpr ⟨lq_X8_warn_1 (List.mem_of_getElem? (i := 1) rfl), List.forall_mem_cons.mpr ⟨lq_X8_warn_1 (List.mem_of_getElem? (i := 2) rfl), List.forall_mem_cons.mpr ⟨lq_X8_warn_1 (List.mem_of_getElem? (i := 3) rfl), List.forall_mem_cons.mpr ⟨lq_X8_warn_1 (List.mem_of_getElem? (i := 4) rfl), List.forall_mem_cons.mpr ⟨lq_X8_warn_1 (List.mem_of_getElem? (i := 5) rfl), List.forall_mem_cons.mpr ⟨lq_X8_warn_1 (List.mem_of_getElem? (i := 6) rfl), List.forall_mem_cons.mpr ⟨lq_X8_warn_1 (List.mem_of_getElem? (i := 7) rfl), List.forall_mem_cons.mpr ⟨lq_X8_warn_1 (List.mem_of_getElem? (i := 8) rfl), List.forall_mem_cons.mpr ⟨lq_X8_warn_1 (List.mem_of_getElem? (i := 9) rfl), List.forall_mem_cons.mpr ⟨lq_X8_warn_1 (List.mem_of_getElem? (i := 10) rfl), List.forall_mem_cons.mpr ⟨lq_X8_warn_1 (List.mem_of_getElem? (i := 11) rfl), fun _ h => absurd h List.not_mem_nil⟩⟩⟩⟩⟩⟩⟩⟩⟩⟩⟩⟩⟩⟩⟩⟩⟩⟩⟩⟩⟩⟩⟩⟩), (show ∀ w ∈ (wsX8_freezesOf_r2 : List Cond), w ∈ wsX8_warn from List.forall_mem_cons.mpr ⟨lq_X8_warn_1 (List.mem_of_getElem? (i := 12) rfl), List.forall_mem_cons.mpr ⟨lq_X8_warn_1 (List.mem_of_getElem? (i := 13) rfl), List.forall_mem_cons.mpr ⟨lq_X8_warn_1 (List.mem_of_getElem? (i := 14) rfl), List.forall_mem_cons.mpr ⟨lq_X8_warn_1 (List.mem_of_getElem? (i := 15) rfl), List.forall_mem_cons.mpr ⟨lq_X8_warn_1 (List.mem_of_getElem? (i := 16) rfl), List.forall_mem_cons.mpr ⟨lq_X8_warn_1 (List.mem_of_getElem? (i := 17) rfl), List.forall_mem_cons.mpr ⟨lq_X8_warn_1 (List.mem_of_getElem? (i := 18) rfl), List.forall_mem_cons.mpr ⟨lq_X8_warn_1 (List.mem_of_getElem? (i := 19) rfl), List.forall_mem_cons.mpr ⟨lq_X8_warn_1 (List.mem_of_getElem? (i := 20) rfl), List.forall_mem_cons.mpr ⟨lq_X8_warn_1 (List.mem_of_getElem? (i := 21) rfl), fun _ h => absurd h List.not_mem_nil⟩⟩⟩⟩⟩⟩⟩⟩⟩⟩)⟩), lt_X8_warn_X8⟩)⟩) (by decide +kernel)
set_option maxRecDepth 20000 in
theorem gX8_warn_X8_freezesOf : GoodIn wsX8_warn (wsV RX8 169 RX8 yX8_freezesOf wsX8_freezesOf) := goodIn_app (goodIn_sub (List.forall_mem_cons.mpr ⟨lq_X8_warn_0 (List.mem_of_getElem? (i := 11) rfl), List.forall_mem_cons.mpr ⟨lq_X8_warn_0 (List.mem_of_getElem? (i := 12) rfl), List.forall_mem_cons.mpr ⟨lq_X8_warn_0 (List.mem_of_getElem? (i := 13) rfl), List.forall_mem_cons.mpr ⟨lq_X8_warn_0 (List.mem_of_getElem? (i := 9) rfl), fun _ h => absurd h List.not_mem_nil⟩⟩⟩⟩) (by decide +kernel)) ggX8_warn_X8_freezesOf
theorem dX8_warn_0 : decode cX8_warn 0 = .ok (.aload_n 0, 1) := by decide +kernel
theorem dX8_warn_1 : decode cX8_warn 1 = .ok (.getfield 7, 3) := by decide +kernel
theorem dX8_warn_4 : decode cX8_warn 4 = .ok (.iconst 1, 1) := by decide +kernel
theorem dX8_warn_5 : decode cX8_warn 5 = .ok (.iaload, 1) := by decide +kernel
theorem dX8_warn_6 : decode cX8_warn 6 = .ok (.ifCond .ne 6, 3) := by decide +kernel
theorem dX8_warn_9 : decode cX8_warn 9 = .ok (.ldc 121, 2) := by decide +kernel
theorem dX8_warn_11 : decode cX8_warn 11 = .ok (.ireturn, 1) := by decide +kernel
theorem dX8_warn_12 : decode cX8_warn 12 = .ok (.iload_n 1, 1) := by decide +kernel
theorem dX8_warn_13 : decode cX8_warn 13 = .ok (.i2l, 1) := by decide +kernel
theorem dX8_warn_14 : decode cX8_warn 14 = .ok (.ldc2_w 172, 3) := by decide +kernel
theorem dX8_warn_17 : decode cX8_warn 17 = .ok (.ldc2_w 40, 3) := by decide +kernel
theorem dX8_warn_20 : decode cX8_warn 20 = .ok (.invokestatic 42, 3) := by decide +kernel
theorem dX8_warn_23 : decode cX8_warn 23 = .ok (.ifCond .ne 6, 3) := by decide +kernel
theorem dX8_warn_26 : decode cX8_warn 26 = .ok (.ldc 48, 2) := by decide +kernel
theorem dX8_warn_28 : decode cX8_warn 28 = .ok (.ireturn, 1) := by decide +kernel
theorem dX8_warn_29 : decode cX8_warn 29 = .ok (.iconst 0, 1) := by decide +kernel
theorem dX8_warn_30 : decode cX8_warn 30 = .ok (.istore_n 2, 1) := by decide +kernel
theorem dX8_warn_31 : decode cX8_warn 31 = .ok (.iconst 0, 1) := by decide +kernel
theorem dX8_warn_32 : decode cX8_warn 32 = .ok (.istore_n 3, 1) := by decide +kernel
theorem dX8_warn_33 : decode cX8_warn 33 = .ok (.iload_n 3, 1) := by decide +kernel
theorem dX8_warn_34 : decode cX8_warn 34 = .ok (.aload_n 0, 1) := by decide +kernel
theorem dX8_warn_35 : decode cX8_warn 35 = .ok (.getfield 7, 3) := by decide +kernel
theorem dX8_warn_38 : decode cX8_warn 38 = .ok (.iconst 1, 1) := by decide +kernel
theorem dX8_warn_39 : decode cX8_warn 39 = .ok (.iaload, 1) := by decide +kernel
theorem dX8_warn_40 : decode cX8_warn 40 = .ok (.if_icmp .ge 39, 3) := by decide +kernel
theorem dX8_warn_43 : decode cX8_warn 43 = .ok (.aload_n 0, 1) := by decide +kernel
theorem dX8_warn_44 : decode cX8_warn 44 = .ok (.getfield 32, 3) := by decide +kernel
theorem dX8_warn_47 : decode cX8_warn 47 = .ok (.iload_n 3, 1) := by decide +kernel
theorem dX8_warn_48 : decode cX8_warn 48 = .ok (.aload_n 0, 1) := by decide +kernel
theorem dX8_warn_49 : decode cX8_warn 49 = .ok (.iload_n 3, 1) := by decide +kernel
theorem dX8_warn_50 : decode cX8_warn 50 = .ok (.bipush 100, 2) := by decide +kernel
theorem dX8_warn_52 : decode cX8_warn 52 = .ok (.invokevirtual 169, 3) := by decide +kernel
theorem dX8_warn_55 : decode cX8_warn 55 = .ok (.iastore, 1) := by decide +kernel
theorem dX8_warn_56 : decode cX8_warn 56 = .ok (.iload_n 2, 1) := by decide +kernel
theorem dX8_warn_57 : decode cX8_warn 57 = .ok (.aload_n 0, 1) := by decide +kernel
theorem dX8_warn_58 : decode cX8_warn 58 = .ok (.getfield 32, 3) := by decide +kernel
theorem dX8_warn_61 : decode cX8_warn 61 = .ok (.iload_n 3, 1) := by decide +kernel
theorem dX8_warn_62 : decode cX8_warn 62 = .ok (.iaload, 1) := by decide +kernel
theorem dX8_warn_63 : decode cX8_warn 63 = .ok (.ifCond .lt 7, 3) := by decide +kernel
theorem dX8_warn_66 : decode cX8_warn 66 = .ok (.iconst 1, 1) := by decide +kernel
theorem dX8_warn_67 : decode cX8_warn 67 = .ok (.goto 4, 3) := by decide +kernel
theorem dX8_warn_70 : decode cX8_warn 70 = .ok (.iconst 0, 1) := by decide +kernel
theorem dX8_warn_71 : decode cX8_warn 71 = .ok (.iadd, 1) := by decide +kernel
theorem dX8_warn_72 : decode cX8_warn 72 = .ok (.istore_n 2, 1) := by decide +kernel
theorem dX8_warn_73 : decode cX8_warn 73 = .ok (.iinc 3 1, 3) := by decide +kernel
theorem dX8_warn_76 : decode cX8_warn 76 = .ok (.goto (-43), 3) := by decide +kernel
theorem dX8_warn_79 : decode cX8_warn 79 = .ok (.iconst 0, 1) := by decide +kernel
theorem dX8_warn_80 : decode cX8_warn 80 = .ok (.istore_n 3, 1) := by decide +kernel
theorem dX8_warn_81 : decode cX8_warn 81 = .ok (.iload_n 3, 1) := by decide +kernel
theorem dX8_warn_82 : decode cX8_warn 82 = .ok (.aload_n 0, 1) := by decide +kernel
theorem dX8_warn_83 : decode cX8_warn 83 = .ok (.getfield 7, 3) := by decide +kernel
theorem dX8_warn_86 : decode cX8_warn 86 = .ok (.iconst 1, 1) := by decide +kernel
theorem dX8_warn_87 : decode cX8_warn 87 = .ok (.iaload, 1) := by decide +kernel
theorem dX8_warn_88 : decode cX8_warn 88 = .ok (.if_icmp .ge 111, 3) := by decide +kernel
theorem dX8_warn_91 : decode cX8_warn 91 = .ok (.iload_n 1, 1) := by decide +kernel
theorem dX8_warn_92 : decode cX8_warn 92 = .ok (.ifCond .lt 107, 3) := by decide +kernel
theorem dX8_warn_95 : decode cX8_warn 95 = .ok (.iconst 0, 1) := by decide +kernel
theorem dX8_warn_96 : decode cX8_warn 96 = .ok (.istore 4, 2) := by decide +kernel
theorem dX8_warn_98 : decode cX8_warn 98 = .ok (.iconst 0, 1) := by decide +kernel
theorem dX8_warn_99 : decode cX8_warn 99 = .ok (.istore 5, 2) := by decide +kernel
theorem dX8_warn_101 : decode cX8_warn 101 = .ok (.iload 5, 2) := by decide +kernel
theorem dX8_warn_103 : decode cX8_warn 103 = .ok (.aload_n 0, 1) := by decide +kernel
theorem dX8_warn_104 : decode cX8_warn 104 = .ok (.getfield 7, 3) := by decide +kernel
theorem dX8_warn_107 : decode cX8_warn 107 = .ok (.iconst 1, 1) := by decide +kernel
theorem dX8_warn_108 : decode cX8_warn 108 = .ok (.iaload, 1) := by decide +kernel
theorem dX8_warn_109 : decode cX8_warn 109 = .ok (.if_icmp .ge 67, 3) := by decide +kernel
theorem dX8_warn_112 : decode cX8_warn 112 = .ok (.iload 4, 2) := by decide +kernel
theorem dX8_warn_114 : decode cX8_warn 114 = .ok (.aload_n 0, 1) := by decide +kernel
theorem dX8_warn_115 : decode cX8_warn 115 = .ok (.getfield 32, 3) := by decide +kernel
theorem dX8_warn_118 : decode cX8_warn 118 = .ok (.iload 5, 2) := by decide +kernel
theorem dX8_warn_120 : decode cX8_warn 120 = .ok (.iaload, 1) := by decide +kernel
theorem dX8_warn_121 : decode cX8_warn 121 = .ok (.ifCond .lt 45, 3) := by decide +kernel
theorem dX8_warn_124 : decode cX8_warn 124 = .ok (.aload_n 0, 1) := by decide +kernel
theorem dX8_warn_125 : decode cX8_warn 125 = .ok (.getfield 32, 3) := by decide +kernel
theorem dX8_warn_128 : decode cX8_warn 128 = .ok (.iload 5, 2) := by decide +kernel
theorem dX8_warn_130 : decode cX8_warn 130 = .ok (.iaload, 1) := by decide +kernel
theorem dX8_warn_131 : decode cX8_warn 131 = .ok (.aload_n 0, 1) := by decide +kernel
theorem dX8_warn_132 : decode cX8_warn 132 = .ok (.getfield 32, 3) := by decide +kernel
theorem dX8_warn_135 : decode cX8_warn 135 = .ok (.iload_n 3, 1) := by decide +kernel
theorem dX8_warn_136 : decode cX8_warn 136 = .ok (.iaload, 1) := by decide +kernel
theorem dX8_warn_137 : decode cX8_warn 137 = .ok (.if_icmp .lt 25, 3) := by decide +kernel
theorem dX8_warn_140 : decode cX8_warn 140 = .ok (.aload_n 0, 1) := by decide +kernel
theorem dX8_warn_141 : decode cX8_warn 141 = .ok (.getfield 32, 3) := by decide +kernel
theorem dX8_warn_144 : decode cX8_warn 144 = .ok (.iload 5, 2) := by decide +kernel
theorem dX8_warn_146 : decode cX8_warn 146 = .ok (.iaload, 1) := by decide +kernel
theorem dX8_warn_147 : decode cX8_warn 147 = .ok (.aload_n 0, 1) := by decide +kernel
theorem dX8_warn_148 : decode cX8_warn 148 = .ok (.getfield 32, 3) := by decide +kernel
theorem dX8_warn_151 : decode cX8_warn 151 = .ok (.iload_n 3, 1) := by decide +kernel
theorem dX8_warn_152 : decode cX8_warn 152 = .ok (.iaload, 1) := by decide +kernel
theorem dX8_warn_153 : decode cX8_warn 153 = .ok (.if_icmp .ne 13, 3) := by decide +kernel
theorem dX8_warn_156 : decode cX8_warn 156 = .ok (.iload 5, 2) := by decide +kernel
theorem dX8_warn_158 : decode cX8_warn 158 = .ok (.iload_n 3, 1) := by decide +kernel
theorem dX8_warn_159 : decode cX8_warn 159 = .ok (.if_icmp .ge 7, 3) := by decide +kernel
theorem dX8_warn_162 : decode cX8_warn 162 = .ok (.iconst 1, 1) := by decide +kernel
theorem dX8_warn_163 : decode cX8_warn 163 = .ok (.goto 4, 3) := by decide +kernel
theorem dX8_warn_166 : decode cX8_warn 166 = .ok (.iconst 0, 1) := by decide +kernel
theorem dX8_warn_167 : decode cX8_warn 167 = .ok (.iadd, 1) := by decide +kernel
theorem dX8_warn_168 : decode cX8_warn 168 = .ok (.istore 4, 2) := by decide +kernel
theorem dX8_warn_170 : decode cX8_warn 170 = .ok (.iinc 5 1, 3) := by decide +kernel
theorem dX8_warn_173 : decode cX8_warn 173 = .ok (.goto (-72), 3) := by decide +kernel
theorem dX8_warn_176 : decode cX8_warn 176 = .ok (.aload_n 0, 1) := by decide +kernel
theorem dX8_warn_177 : decode cX8_warn 177 = .ok (.getfield 32, 3) := by decide +kernel
theorem dX8_warn_180 : decode cX8_warn 180 = .ok (.iload_n 3, 1) := by decide +kernel
theorem dX8_warn_181 : decode cX8_warn 181 = .ok (.iaload, 1) := by decide +kernel
theorem dX8_warn_182 : decode cX8_warn 182 = .ok (.ifCond .lt 11, 3) := by decide +kernel
theorem dX8_warn_185 : decode cX8_warn 185 = .ok (.iload 4, 2) := by decide +kernel
theorem dX8_warn_187 : decode cX8_warn 187 = .ok (.iload_n 1, 1) := by decide +kernel
theorem dX8_warn_188 : decode cX8_warn 188 = .ok (.if_icmp .ne 5, 3) := by decide +kernel
theorem dX8_warn_191 : decode cX8_warn 191 = .ok (.iload_n 3, 1) := by decide +kernel
theorem dX8_warn_192 : decode cX8_warn 192 = .ok (.ireturn, 1) := by decide +kernel
theorem dX8_warn_193 : decode cX8_warn 193 = .ok (.iinc 3 1, 3) := by decide +kernel
theorem dX8_warn_196 : decode cX8_warn 196 = .ok (.goto (-115), 3) := by decide +kernel
theorem dX8_warn_199 : decode cX8_warn 199 = .ok (.iload_n 1, 1) := by decide +kernel
theorem dX8_warn_200 : decode cX8_warn 200 = .ok (.ifCond .ge 7, 3) := by decide +kernel
theorem dX8_warn_203 : decode cX8_warn 203 = .ok (.iload_n 2, 1) := by decide +kernel
theorem dX8_warn_204 : decode cX8_warn 204 = .ok (.goto 5, 3) := by decide +kernel
theorem dX8_warn_207 : decode cX8_warn 207 = .ok (.ldc 99, 2) := by decide +kernel
theorem dX8_warn_209 : decode cX8_warn 209 = .ok (.ireturn, 1) := by decide +kernel
theorem lq_X8_isSlept_0 {w : Cond} (h : w ∈ (wsX8_isSlept_r1 : List Cond)) : w ∈ wsX8_isSlept := List.mem_cons_of_mem _ (List.mem_append_left _ (List.mem_append_left _ (h)))
theorem lq_X8_isSlept_1 {w : Cond} (h : w ∈ (wsX8_isSlept_r2 : List Cond)) : w ∈ wsX8_isSlept := List.mem_cons_of_mem _ (List.mem_append_left _ (List.mem_append_right _ (h)))
theorem lt_X8_isSlept_X8 : ∀ w ∈ wsX80, w ∈ wsX8_isSlept := fun _ h => List.mem_cons_of_mem _ (List.mem_append_right _ (h))
set_option maxRecDepth 20000 in
theorem ggX8_isSlept_X8_day : GoodIn wsX8_isSlept wsX8_day := goodIn_sub (List.forall_mem_cons.mpr ⟨lq_X8_isSlept_0 (List.mem_of_getElem? (i := 5) rfl), (List.forall_mem_append.mpr ⟨(List.forall_mem_append.mpr ⟨(show ∀ w ∈ (wsX8_day_r1 : List Cond), w ∈ wsX8_isSlept from List.forall_mem_cons.mpr ⟨lq_X8_isSlept_0 (List.mem_of_getElem? (i := 0) rfl), List.forall_mem_cons.mpr ⟨lq_X8_isSlept_0 (List.mem_of_getElem? (i := 6) rfl), List.forall_mem_cons.mpr ⟨lq_X8_isSlept_0 (List.mem_of_getElem? (i := 7) rfl), List.forall_mem_cons.mpr ⟨lq_X8_isSlept_0 (List.mem_of_getElem? (i := 8) rfl), List.forall_mem_cons.mpr ⟨lq_X8_isSlept_0 (List.mem_of_getElem? (i := 4) rfl), List.forall_mem_cons.mpr ⟨lq_X8_isSlept_0 (List.mem_of_getElem? (i := 9) rfl), List.forall_mem_cons.mpr ⟨lq_X8_isSlept_0 (List.mem_of_getElem? (i := 10) rfl), List.forall_mem_cons.mpr ⟨lq_X8_isSlept_0 (List.mem_of_getElem? (i := 11) rfl), List.forall_mem_cons.mpr ⟨lq_X8_isSlept_0 (List.mem_of_getElem? (i := 12) rfl), List.forall_mem_cons.mpr ⟨lq_X8_isSlept_0 (List.mem_of_getElem? (i := 13) rfl), List.forall_mem_cons.mpr ⟨lq_X8_isSlept_0 (List.mem_of_getElem? (i := 14) rfl), List.forall_mem_cons.mpr ⟨lq_X8_isSlept_0 (List.mem_of_getElem? (i := 15) rfl), List.forall_mem_cons.mpr ⟨lq_X8_isSlept_0 (List.mem_of_getElem? (i := 16) rfl), List.forall_mem_cons.mpr ⟨lq_X8_isSlept_0 (List.mem_of_getElem? (i := 17) rfl), List.forall_mem_cons.mpr ⟨lq_X8_isSlept_0 (List.mem_of_getElem? (i := 18) rfl), List.forall_mem_cons.mpr ⟨lq_X8_isSlept_0 (List.mem_of_getElem? (i := 19) rfl), List.forall_mem_cons.mpr ⟨lq_X8_isSlept_0 (List.mem_of_getElem? (i := 20) rfl), List.forall_mem_cons.mpr ⟨lq_X8_isSlept_0 (List.mem_of_getElem? (i := 21) rfl), List.forall_mem_cons.mpr ⟨lq_X8_isSlept_0 (List.mem_of_getElem? (i := 22) rfl), List.forall_mem_cons.mpr ⟨lq_X8_isSlept_0 (List.mem_of_getElem? (i := 23) rfl), List.forall_mem_cons.mpr ⟨lq_X8_isSlept_1 (List.mem_of_getElem? (i := 0) rfl), List.forall_mem_cons.mpr ⟨lq_X8_isSlept_1 (List.mem_of_getElem? (i := 1) rfl), List.forall_mem_cons.mpr ⟨lq_X8_isSlept_1 (List.mem_of_getElem? (i := 2) rfl), List.forall_mem_cons.mpr ⟨lq_X8_isSlept_1 (List.mem_of_getElem? (i := 3) rfl), fun _ h => absurd h List.not_mem_nil⟩⟩⟩⟩⟩⟩⟩⟩⟩⟩⟩⟩⟩⟩⟩⟩⟩⟩⟩⟩⟩⟩⟩⟩), (show ∀ w ∈ (wsX8_day_r2 : List Cond), w ∈ wsX8_isSlept from List.forall_mem_cons.mpr ⟨lq_X8_isSlept_1 (List.mem_of_getElem? (i := 4) rfl), fun _ h => absurd h List.not_mem_nil⟩)⟩), lt_X8_isSlept_X8⟩)⟩) (by decide +kernel)
set_option maxRecDepth 20000 in
theorem gX8_isSlept_X8_day : GoodIn wsX8_isSlept (wsV RX8 139 RX8 yX8_day wsX8_day) := goodIn_app (goodIn_sub (List.forall_mem_cons.mpr ⟨lq_X8_isSlept_0 (List.mem_of_getElem? (i := 1) rfl), List.forall_mem_cons.mpr ⟨lq_X8_isSlept_0 (List.mem_of_getElem? (i := 2) rfl), List.forall_mem_cons.mpr ⟨lq_X8_isSlept_0 (List.mem_of_getElem? (i := 3) rfl), List.forall_mem_cons.mpr ⟨lq_X8_isSlept_0 (List.mem_of_getElem? (i := 4) rfl), fun _ h => absurd h List.not_mem_nil⟩⟩⟩⟩) (by decide +kernel)) ggX8_isSlept_X8_day
theorem dX8_isSlept_0 : decode cX8_isSlept 0 = .ok (.aload_n 0, 1) := by decide +kernel
theorem dX8_isSlept_1 : decode cX8_isSlept 1 = .ok (.getfield 7, 3) := by decide +kernel
theorem dX8_isSlept_4 : decode cX8_isSlept 4 = .ok (.sipush 1579, 3) := by decide +kernel
theorem dX8_isSlept_7 : decode cX8_isSlept 7 = .ok (.iload_n 1, 1) := by decide +kernel
theorem dX8_isSlept_8 : decode cX8_isSlept 8 = .ok (.iadd, 1) := by decide +kernel
theorem dX8_isSlept_9 : decode cX8_isSlept 9 = .ok (.iaload, 1) := by decide +kernel
theorem dX8_isSlept_10 : decode cX8_isSlept 10 = .ok (.istore_n 3, 1) := by decide +kernel
theorem dX8_isSlept_11 : decode cX8_isSlept 11 = .ok (.iconst 0, 1) := by decide +kernel
theorem dX8_isSlept_12 : decode cX8_isSlept 12 = .ok (.istore 4, 2) := by decide +kernel
theorem dX8_isSlept_14 : decode cX8_isSlept 14 = .ok (.iload 4, 2) := by decide +kernel
theorem dX8_isSlept_16 : decode cX8_isSlept 16 = .ok (.iload_n 2, 1) := by decide +kernel
theorem dX8_isSlept_17 : decode cX8_isSlept 17 = .ok (.if_icmp .ge 16, 3) := by decide +kernel
theorem dX8_isSlept_20 : decode cX8_isSlept 20 = .ok (.aload_n 0, 1) := by decide +kernel
theorem dX8_isSlept_21 : decode cX8_isSlept 21 = .ok (.bipush 27, 2) := by decide +kernel
theorem dX8_isSlept_23 : decode cX8_isSlept 23 = .ok (.iconst (-1), 1) := by decide +kernel
theorem dX8_isSlept_24 : decode cX8_isSlept 24 = .ok (.invokevirtual 139, 3) := by decide +kernel
theorem dX8_isSlept_27 : decode cX8_isSlept 27 = .ok (.iinc 4 1, 3) := by decide +kernel
theorem dX8_isSlept_30 : decode cX8_isSlept 30 = .ok (.goto (-16), 3) := by decide +kernel
theorem dX8_isSlept_33 : decode cX8_isSlept 33 = .ok (.aload_n 0, 1) := by decide +kernel
theorem dX8_isSlept_34 : decode cX8_isSlept 34 = .ok (.getfield 7, 3) := by decide +kernel
theorem dX8_isSlept_37 : decode cX8_isSlept 37 = .ok (.sipush 1579, 3) := by decide +kernel
theorem dX8_isSlept_40 : decode cX8_isSlept 40 = .ok (.iload_n 1, 1) := by decide +kernel
theorem dX8_isSlept_41 : decode cX8_isSlept 41 = .ok (.iadd, 1) := by decide +kernel
theorem dX8_isSlept_42 : decode cX8_isSlept 42 = .ok (.iaload, 1) := by decide +kernel
theorem dX8_isSlept_43 : decode cX8_isSlept 43 = .ok (.iload_n 3, 1) := by decide +kernel
theorem dX8_isSlept_44 : decode cX8_isSlept 44 = .ok (.if_icmp .le 7, 3) := by decide +kernel
theorem dX8_isSlept_47 : decode cX8_isSlept 47 = .ok (.iconst 1, 1) := by decide +kernel
theorem dX8_isSlept_48 : decode cX8_isSlept 48 = .ok (.goto 4, 3) := by decide +kernel
theorem dX8_isSlept_51 : decode cX8_isSlept 51 = .ok (.iconst 0, 1) := by decide +kernel
theorem dX8_isSlept_52 : decode cX8_isSlept 52 = .ok (.ireturn, 1) := by decide +kernel
theorem lq_X8_lure_0 {w : Cond} (h : w ∈ (wsX8_lure_r1 : List Cond)) : w ∈ wsX8_lure := List.mem_cons_of_mem _ (List.mem_append_left _ (List.mem_append_left _ (h)))
theorem lq_X8_lure_1 {w : Cond} (h : w ∈ (wsX8_lure_r2 : List Cond)) : w ∈ wsX8_lure := List.mem_cons_of_mem _ (List.mem_append_left _ (List.mem_append_right _ (h)))
theorem lt_X8_lure_X8 : ∀ w ∈ wsX80, w ∈ wsX8_lure := fun _ h => List.mem_cons_of_mem _ (List.mem_append_right _ (h))
set_option maxRecDepth 20000 in
theorem ggX8_lure_X8_isVillageThere : GoodIn wsX8_lure wsX8_isVillageThere := goodIn_sub (List.forall_mem_cons.mpr ⟨lq_X8_lure_0 (List.mem_of_getElem? (i := 8) rfl), (List.forall_mem_append.mpr ⟨(show ∀ w ∈ ([.fieldLink RX8 7 "WinterWalkModel" "slot" "[I", .methodLink RX8 42 yX8_in, .static yX8_in, .initialized RX8, .code yX8_in cX8_in 6 (some .boolean)] : List Cond), w ∈ wsX8_lure from List.forall_mem_cons.mpr ⟨lq_X8_lure_0 (List.mem_of_getElem? (i := 2) rfl), List.forall_mem_cons.mpr ⟨lq_X8_lure_0 (List.mem_of_getElem? (i := 9) rfl), List.forall_mem_cons.mpr ⟨lq_X8_lure_0 (List.mem_of_getElem? (i := 10) rfl), List.forall_mem_cons.mpr ⟨lq_X8_lure_0 (List.mem_of_getElem? (i := 7) rfl), List.forall_mem_cons.mpr ⟨lq_X8_lure_0 (List.mem_of_getElem? (i := 11) rfl), fun _ h => absurd h List.not_mem_nil⟩⟩⟩⟩⟩), lt_X8_lure_X8⟩)⟩) (by decide +kernel)
set_option maxRecDepth 20000 in
theorem gX8_lure_X8_isVillageThere : GoodIn wsX8_lure (wsV RX8 147 RX8 yX8_isVillageThere wsX8_isVillageThere) := goodIn_app (goodIn_sub (List.forall_mem_cons.mpr ⟨lq_X8_lure_0 (List.mem_of_getElem? (i := 4) rfl), List.forall_mem_cons.mpr ⟨lq_X8_lure_0 (List.mem_of_getElem? (i := 5) rfl), List.forall_mem_cons.mpr ⟨lq_X8_lure_0 (List.mem_of_getElem? (i := 6) rfl), List.forall_mem_cons.mpr ⟨lq_X8_lure_0 (List.mem_of_getElem? (i := 7) rfl), fun _ h => absurd h List.not_mem_nil⟩⟩⟩⟩) (by decide +kernel)) ggX8_lure_X8_isVillageThere
set_option maxRecDepth 20000 in
theorem ggX8_lure_X8_in : GoodIn wsX8_lure wsX8_in := goodIn_sub (List.forall_mem_cons.mpr ⟨lq_X8_lure_0 (List.mem_of_getElem? (i := 11) rfl), (show ∀ w ∈ ([] : List Cond), w ∈ wsX8_lure from fun _ h => absurd h List.not_mem_nil)⟩) (by decide +kernel)
set_option maxRecDepth 20000 in
theorem gX8_lure_X8_in : GoodIn wsX8_lure (va_wsS RX8 42 yX8_in wsX8_in) := goodIn_app (goodIn_sub (List.forall_mem_cons.mpr ⟨lq_X8_lure_0 (List.mem_of_getElem? (i := 9) rfl), List.forall_mem_cons.mpr ⟨lq_X8_lure_0 (List.mem_of_getElem? (i := 10) rfl), List.forall_mem_cons.mpr ⟨lq_X8_lure_0 (List.mem_of_getElem? (i := 7) rfl), fun _ h => absurd h List.not_mem_nil⟩⟩⟩) (by decide +kernel)) ggX8_lure_X8_in
set_option maxRecDepth 20000 in
theorem ggX8_lure_X8_copies : GoodIn wsX8_lure wsX8_copies := goodIn_sub (List.forall_mem_cons.mpr ⟨lq_X8_lure_0 (List.mem_of_getElem? (i := 15) rfl), (List.forall_mem_append.mpr ⟨(show ∀ w ∈ ([.fieldLink RX8 7 "WinterWalkModel" "slot" "[I"] : List Cond), w ∈ wsX8_lure from List.forall_mem_cons.mpr ⟨lq_X8_lure_0 (List.mem_of_getElem? (i := 2) rfl), fun _ h => absurd h List.not_mem_nil⟩), lt_X8_lure_X8⟩)⟩) (by decide +kernel)
set_option maxRecDepth 20000 in
theorem gX8_lure_X8_copies : GoodIn wsX8_lure (wsV RX8 114 RX8 yX8_copies wsX8_copies) := goodIn_app (goodIn_sub (List.forall_mem_cons.mpr ⟨lq_X8_lure_0 (List.mem_of_getElem? (i := 12) rfl), List.forall_mem_cons.mpr ⟨lq_X8_lure_0 (List.mem_of_getElem? (i := 13) rfl), List.forall_mem_cons.mpr ⟨lq_X8_lure_0 (List.mem_of_getElem? (i := 14) rfl), List.forall_mem_cons.mpr ⟨lq_X8_lure_0 (List.mem_of_getElem? (i := 7) rfl), fun _ h => absurd h List.not_mem_nil⟩⟩⟩⟩) (by decide +kernel)) ggX8_lure_X8_copies
set_option maxRecDepth 20000 in
theorem ggX8_lure_X8_isSlept : GoodIn wsX8_lure wsX8_isSlept := goodIn_sub (List.forall_mem_cons.mpr ⟨lq_X8_lure_0 (List.mem_of_getElem? (i := 19) rfl), (List.forall_mem_append.mpr ⟨(List.forall_mem_append.mpr ⟨(show ∀ w ∈ (wsX8_isSlept_r1 : List Cond), w ∈ wsX8_lure from List.forall_mem_cons.mpr ⟨lq_X8_lure_0 (List.mem_of_getElem? (i := 2) rfl), List.forall_mem_cons.mpr ⟨lq_X8_lure_0 (List.mem_of_getElem? (i := 20) rfl), List.forall_mem_cons.mpr ⟨lq_X8_lure_0 (List.mem_of_getElem? (i := 21) rfl), List.forall_mem_cons.mpr ⟨lq_X8_lure_0 (List.mem_of_getElem? (i := 22) rfl), List.forall_mem_cons.mpr ⟨lq_X8_lure_0 (List.mem_of_getElem? (i := 7) rfl), List.forall_mem_cons.mpr ⟨lq_X8_lure_0 (List.mem_of_getElem? (i := 23) rfl), List.forall_mem_cons.mpr ⟨lq_X8_lure_1 (List.mem_of_getElem? (i := 0) rfl), List.forall_mem_cons.mpr ⟨lq_X8_lure_1 (List.mem_of_getElem? (i := 1) rfl), List.forall_mem_cons.mpr ⟨lq_X8_lure_1 (List.mem_of_getElem? (i := 2) rfl), List.forall_mem_cons.mpr ⟨lq_X8_lure_1 (List.mem_of_getElem? (i := 3) rfl), List.forall_mem_cons.mpr ⟨lq_X8_lure_1 (List.mem_of_getElem? (i := 4) rfl), List.forall_mem_cons.mpr ⟨lq_X8_lure_1 (List.mem_of_getElem? (i := 5) rfl), List.forall_mem_cons.mpr ⟨lq_X8_lure_1 (List.mem_of_getElem? (i := 6) rfl), List.forall_mem_cons.mpr ⟨lq_X8_lure_1 (List.mem_of_getElem? (i := 7) rfl), List.forall_mem_cons.mpr ⟨lq_X8_lure_1 (List.mem_of_getElem? (i := 8) rfl), List.forall_mem_cons.mpr ⟨lq_X8_lure_1 (List.mem_of_getElem? (i := 9) rfl), List.forall_mem_cons.mpr ⟨lq_X8_lure_1 (List.mem_of_getElem? (i := 10) rfl), List.forall_mem_cons.mpr ⟨lq_X8_lure_1 (List.mem_of_getElem? (i := 11) rfl), List.forall_mem_cons.mpr ⟨lq_X8_lure_1 (List.mem_of_getElem? (i := 12) rfl), List.forall_mem_cons.mpr ⟨lq_X8_lure_1 (List.mem_of_getElem? (i := 13) rfl), List.forall_mem_cons.mpr ⟨lq_X8_lure_1 (List.mem_of_getElem? (i := 14) rfl), List.forall_mem_cons.mpr ⟨lq_X8_lure_1 (List.mem_of_getElem? (i := 15) rfl), List.forall_mem_cons.mpr ⟨lq_X8_lure_1 (List.mem_of_getElem? (i := 16) rfl), List.forall_mem_cons.mpr ⟨lq_X8_lure_1 (List.mem_of_getElem? (i := 17) rfl), fun _ h => absurd h List.not_mem_nil⟩⟩⟩⟩⟩⟩⟩⟩⟩⟩⟩⟩⟩⟩⟩⟩⟩⟩⟩⟩⟩⟩⟩⟩), (show ∀ w ∈ (wsX8_isSlept_r2 : List Cond), w ∈ wsX8_lure from List.forall_mem_cons.mpr ⟨lq_X8_lure_1 (List.mem_of_getElem? (i := 18) rfl), List.forall_mem_cons.mpr ⟨lq_X8_lure_1 (List.mem_of_getElem? (i := 19) rfl), List.forall_mem_cons.mpr ⟨lq_X8_lure_1 (List.mem_of_getElem? (i := 20) rfl), List.forall_mem_cons.mpr ⟨lq_X8_lure_1 (List.mem_of_getElem? (i := 21) rfl), List.forall_mem_cons.mpr ⟨lq_X8_lure_1 (List.mem_of_getElem? (i := 22) rfl), fun _ h => absurd h List.not_mem_nil⟩⟩⟩⟩⟩)⟩), lt_X8_lure_X8⟩)⟩) (by decide +kernel)
set_option maxRecDepth 20000 in
theorem gX8_lure_X8_isSlept : GoodIn wsX8_lure (wsV RX8 174 RX8 yX8_isSlept wsX8_isSlept) := goodIn_app (goodIn_sub (List.forall_mem_cons.mpr ⟨lq_X8_lure_0 (List.mem_of_getElem? (i := 16) rfl), List.forall_mem_cons.mpr ⟨lq_X8_lure_0 (List.mem_of_getElem? (i := 17) rfl), List.forall_mem_cons.mpr ⟨lq_X8_lure_0 (List.mem_of_getElem? (i := 18) rfl), List.forall_mem_cons.mpr ⟨lq_X8_lure_0 (List.mem_of_getElem? (i := 7) rfl), fun _ h => absurd h List.not_mem_nil⟩⟩⟩⟩) (by decide +kernel)) ggX8_lure_X8_isSlept
theorem dX8_lure_0 : decode cX8_lure 0 = .ok (.aload_n 0, 1) := by decide +kernel
theorem dX8_lure_1 : decode cX8_lure 1 = .ok (.iload_n 1, 1) := by decide +kernel
theorem dX8_lure_2 : decode cX8_lure 2 = .ok (.invokevirtual 147, 3) := by decide +kernel
theorem dX8_lure_5 : decode cX8_lure 5 = .ok (.ifCond .eq 15, 3) := by decide +kernel
theorem dX8_lure_8 : decode cX8_lure 8 = .ok (.iload_n 2, 1) := by decide +kernel
theorem dX8_lure_9 : decode cX8_lure 9 = .ok (.i2l, 1) := by decide +kernel
theorem dX8_lure_10 : decode cX8_lure 10 = .ok (.lconst 1, 1) := by decide +kernel
theorem dX8_lure_11 : decode cX8_lure 11 = .ok (.ldc2_w 160, 3) := by decide +kernel
theorem dX8_lure_14 : decode cX8_lure 14 = .ok (.invokestatic 42, 3) := by decide +kernel
theorem dX8_lure_17 : decode cX8_lure 17 = .ok (.ifCond .ne 6, 3) := by decide +kernel
theorem dX8_lure_20 : decode cX8_lure 20 = .ok (.ldc 48, 2) := by decide +kernel
theorem dX8_lure_22 : decode cX8_lure 22 = .ok (.ireturn, 1) := by decide +kernel
theorem dX8_lure_23 : decode cX8_lure 23 = .ok (.iconst 0, 1) := by decide +kernel
theorem dX8_lure_24 : decode cX8_lure 24 = .ok (.istore_n 3, 1) := by decide +kernel
theorem dX8_lure_25 : decode cX8_lure 25 = .ok (.iload_n 3, 1) := by decide +kernel
theorem dX8_lure_26 : decode cX8_lure 26 = .ok (.bipush 21, 2) := by decide +kernel
theorem dX8_lure_28 : decode cX8_lure 28 = .ok (.if_icmp .ge 38, 3) := by decide +kernel
theorem dX8_lure_31 : decode cX8_lure 31 = .ok (.aload_n 0, 1) := by decide +kernel
theorem dX8_lure_32 : decode cX8_lure 32 = .ok (.iconst 0, 1) := by decide +kernel
theorem dX8_lure_33 : decode cX8_lure 33 = .ok (.bipush 27, 2) := by decide +kernel
theorem dX8_lure_35 : decode cX8_lure 35 = .ok (.invokevirtual 114, 3) := by decide +kernel
theorem dX8_lure_38 : decode cX8_lure 38 = .ok (.aload_n 0, 1) := by decide +kernel
theorem dX8_lure_39 : decode cX8_lure 39 = .ok (.getfield 7, 3) := by decide +kernel
theorem dX8_lure_42 : decode cX8_lure 42 = .ok (.sipush 1562, 3) := by decide +kernel
theorem dX8_lure_45 : decode cX8_lure 45 = .ok (.iload_n 1, 1) := by decide +kernel
theorem dX8_lure_46 : decode cX8_lure 46 = .ok (.iadd, 1) := by decide +kernel
theorem dX8_lure_47 : decode cX8_lure 47 = .ok (.iload_n 3, 1) := by decide +kernel
theorem dX8_lure_48 : decode cX8_lure 48 = .ok (.iastore, 1) := by decide +kernel
theorem dX8_lure_49 : decode cX8_lure 49 = .ok (.aload_n 0, 1) := by decide +kernel
theorem dX8_lure_50 : decode cX8_lure 50 = .ok (.iload_n 1, 1) := by decide +kernel
theorem dX8_lure_51 : decode cX8_lure 51 = .ok (.iload_n 2, 1) := by decide +kernel
theorem dX8_lure_52 : decode cX8_lure 52 = .ok (.invokevirtual 174, 3) := by decide +kernel
theorem dX8_lure_55 : decode cX8_lure 55 = .ok (.ifCond .eq 5, 3) := by decide +kernel
theorem dX8_lure_58 : decode cX8_lure 58 = .ok (.iload_n 3, 1) := by decide +kernel
theorem dX8_lure_59 : decode cX8_lure 59 = .ok (.ireturn, 1) := by decide +kernel
theorem dX8_lure_60 : decode cX8_lure 60 = .ok (.iinc 3 1, 3) := by decide +kernel
theorem dX8_lure_63 : decode cX8_lure 63 = .ok (.goto (-38), 3) := by decide +kernel
theorem dX8_lure_66 : decode cX8_lure 66 = .ok (.ldc 99, 2) := by decide +kernel
theorem dX8_lure_68 : decode cX8_lure 68 = .ok (.ireturn, 1) := by decide +kernel
theorem lq_X8_keepsAway_0 {w : Cond} (h : w ∈ (wsX8_keepsAway_r1 : List Cond)) : w ∈ wsX8_keepsAway := List.mem_cons_of_mem _ (List.mem_append_left _ (List.mem_append_left _ (h)))
theorem lq_X8_keepsAway_1 {w : Cond} (h : w ∈ (wsX8_keepsAway_r2 : List Cond)) : w ∈ wsX8_keepsAway := List.mem_cons_of_mem _ (List.mem_append_left _ (List.mem_append_right _ (List.mem_append_left _ (h))))
theorem lq_X8_keepsAway_2 {w : Cond} (h : w ∈ (wsX8_keepsAway_r3 : List Cond)) : w ∈ wsX8_keepsAway := List.mem_cons_of_mem _ (List.mem_append_left _ (List.mem_append_right _ (List.mem_append_right _ (h))))
theorem lt_X8_keepsAway_X8 : ∀ w ∈ wsX80, w ∈ wsX8_keepsAway := fun _ h => List.mem_cons_of_mem _ (List.mem_append_right _ (h))
set_option maxRecDepth 20000 in
theorem ggX8_keepsAway_X8_isVillageThere : GoodIn wsX8_keepsAway wsX8_isVillageThere := goodIn_sub (List.forall_mem_cons.mpr ⟨lq_X8_keepsAway_0 (List.mem_of_getElem? (i := 8) rfl), (List.forall_mem_append.mpr ⟨(show ∀ w ∈ ([.fieldLink RX8 7 "WinterWalkModel" "slot" "[I", .methodLink RX8 42 yX8_in, .static yX8_in, .initialized RX8, .code yX8_in cX8_in 6 (some .boolean)] : List Cond), w ∈ wsX8_keepsAway from List.forall_mem_cons.mpr ⟨lq_X8_keepsAway_0 (List.mem_of_getElem? (i := 2) rfl), List.forall_mem_cons.mpr ⟨lq_X8_keepsAway_0 (List.mem_of_getElem? (i := 9) rfl), List.forall_mem_cons.mpr ⟨lq_X8_keepsAway_0 (List.mem_of_getElem? (i := 10) rfl), List.forall_mem_cons.mpr ⟨lq_X8_keepsAway_0 (List.mem_of_getElem? (i := 7) rfl), List.forall_mem_cons.mpr ⟨lq_X8_keepsAway_0 (List.mem_of_getElem? (i := 11) rfl), fun _ h => absurd h List.not_mem_nil⟩⟩⟩⟩⟩), lt_X8_keepsAway_X8⟩)⟩) (by decide +kernel)
set_option maxRecDepth 20000 in
theorem gX8_keepsAway_X8_isVillageThere : GoodIn wsX8_keepsAway (wsV RX8 147 RX8 yX8_isVillageThere wsX8_isVillageThere) := goodIn_app (goodIn_sub (List.forall_mem_cons.mpr ⟨lq_X8_keepsAway_0 (List.mem_of_getElem? (i := 4) rfl), List.forall_mem_cons.mpr ⟨lq_X8_keepsAway_0 (List.mem_of_getElem? (i := 5) rfl), List.forall_mem_cons.mpr ⟨lq_X8_keepsAway_0 (List.mem_of_getElem? (i := 6) rfl), List.forall_mem_cons.mpr ⟨lq_X8_keepsAway_0 (List.mem_of_getElem? (i := 7) rfl), fun _ h => absurd h List.not_mem_nil⟩⟩⟩⟩) (by decide +kernel)) ggX8_keepsAway_X8_isVillageThere
set_option maxRecDepth 20000 in
theorem ggX8_keepsAway_X8_in : GoodIn wsX8_keepsAway wsX8_in := goodIn_sub (List.forall_mem_cons.mpr ⟨lq_X8_keepsAway_0 (List.mem_of_getElem? (i := 11) rfl), (show ∀ w ∈ ([] : List Cond), w ∈ wsX8_keepsAway from fun _ h => absurd h List.not_mem_nil)⟩) (by decide +kernel)
set_option maxRecDepth 20000 in
theorem gX8_keepsAway_X8_in : GoodIn wsX8_keepsAway (va_wsS RX8 42 yX8_in wsX8_in) := goodIn_app (goodIn_sub (List.forall_mem_cons.mpr ⟨lq_X8_keepsAway_0 (List.mem_of_getElem? (i := 9) rfl), List.forall_mem_cons.mpr ⟨lq_X8_keepsAway_0 (List.mem_of_getElem? (i := 10) rfl), List.forall_mem_cons.mpr ⟨lq_X8_keepsAway_0 (List.mem_of_getElem? (i := 7) rfl), fun _ h => absurd h List.not_mem_nil⟩⟩⟩) (by decide +kernel)) ggX8_keepsAway_X8_in
set_option maxRecDepth 20000 in
theorem ggX8_keepsAway_X8_many : GoodIn wsX8_keepsAway wsX8_many := goodIn_sub (List.forall_mem_cons.mpr ⟨lq_X8_keepsAway_0 (List.mem_of_getElem? (i := 14) rfl), (show ∀ w ∈ ([] : List Cond), w ∈ wsX8_keepsAway from fun _ h => absurd h List.not_mem_nil)⟩) (by decide +kernel)
set_option maxRecDepth 20000 in
theorem gX8_keepsAway_X8_many : GoodIn wsX8_keepsAway (va_wsS RX8 152 yX8_many wsX8_many) := goodIn_app (goodIn_sub (List.forall_mem_cons.mpr ⟨lq_X8_keepsAway_0 (List.mem_of_getElem? (i := 12) rfl), List.forall_mem_cons.mpr ⟨lq_X8_keepsAway_0 (List.mem_of_getElem? (i := 13) rfl), List.forall_mem_cons.mpr ⟨lq_X8_keepsAway_0 (List.mem_of_getElem? (i := 7) rfl), fun _ h => absurd h List.not_mem_nil⟩⟩⟩) (by decide +kernel)) ggX8_keepsAway_X8_many
set_option maxRecDepth 20000 in
theorem ggX8_keepsAway_X8_copies : GoodIn wsX8_keepsAway wsX8_copies := goodIn_sub (List.forall_mem_cons.mpr ⟨lq_X8_keepsAway_0 (List.mem_of_getElem? (i := 18) rfl), (List.forall_mem_append.mpr ⟨(show ∀ w ∈ ([.fieldLink RX8 7 "WinterWalkModel" "slot" "[I"] : List Cond), w ∈ wsX8_keepsAway from List.forall_mem_cons.mpr ⟨lq_X8_keepsAway_0 (List.mem_of_getElem? (i := 2) rfl), fun _ h => absurd h List.not_mem_nil⟩), lt_X8_keepsAway_X8⟩)⟩) (by decide +kernel)
set_option maxRecDepth 20000 in
theorem gX8_keepsAway_X8_copies : GoodIn wsX8_keepsAway (wsV RX8 114 RX8 yX8_copies wsX8_copies) := goodIn_app (goodIn_sub (List.forall_mem_cons.mpr ⟨lq_X8_keepsAway_0 (List.mem_of_getElem? (i := 15) rfl), List.forall_mem_cons.mpr ⟨lq_X8_keepsAway_0 (List.mem_of_getElem? (i := 16) rfl), List.forall_mem_cons.mpr ⟨lq_X8_keepsAway_0 (List.mem_of_getElem? (i := 17) rfl), List.forall_mem_cons.mpr ⟨lq_X8_keepsAway_0 (List.mem_of_getElem? (i := 7) rfl), fun _ h => absurd h List.not_mem_nil⟩⟩⟩⟩) (by decide +kernel)) ggX8_keepsAway_X8_copies
set_option maxRecDepth 20000 in
theorem ggX8_keepsAway_X8_isSlept : GoodIn wsX8_keepsAway wsX8_isSlept := goodIn_sub (List.forall_mem_cons.mpr ⟨lq_X8_keepsAway_0 (List.mem_of_getElem? (i := 22) rfl), (List.forall_mem_append.mpr ⟨(List.forall_mem_append.mpr ⟨(show ∀ w ∈ (wsX8_isSlept_r1 : List Cond), w ∈ wsX8_keepsAway from List.forall_mem_cons.mpr ⟨lq_X8_keepsAway_0 (List.mem_of_getElem? (i := 2) rfl), List.forall_mem_cons.mpr ⟨lq_X8_keepsAway_0 (List.mem_of_getElem? (i := 23) rfl), List.forall_mem_cons.mpr ⟨lq_X8_keepsAway_1 (List.mem_of_getElem? (i := 0) rfl), List.forall_mem_cons.mpr ⟨lq_X8_keepsAway_1 (List.mem_of_getElem? (i := 1) rfl), List.forall_mem_cons.mpr ⟨lq_X8_keepsAway_0 (List.mem_of_getElem? (i := 7) rfl), List.forall_mem_cons.mpr ⟨lq_X8_keepsAway_1 (List.mem_of_getElem? (i := 2) rfl), List.forall_mem_cons.mpr ⟨lq_X8_keepsAway_1 (List.mem_of_getElem? (i := 3) rfl), List.forall_mem_cons.mpr ⟨lq_X8_keepsAway_1 (List.mem_of_getElem? (i := 4) rfl), List.forall_mem_cons.mpr ⟨lq_X8_keepsAway_1 (List.mem_of_getElem? (i := 5) rfl), List.forall_mem_cons.mpr ⟨lq_X8_keepsAway_1 (List.mem_of_getElem? (i := 6) rfl), List.forall_mem_cons.mpr ⟨lq_X8_keepsAway_1 (List.mem_of_getElem? (i := 7) rfl), List.forall_mem_cons.mpr ⟨lq_X8_keepsAway_1 (List.mem_of_getElem? (i := 8) rfl), List.forall_mem_cons.mpr ⟨lq_X8_keepsAway_1 (List.mem_of_getElem? (i := 9) rfl), List.forall_mem_cons.mpr ⟨lq_X8_keepsAway_1 (List.mem_of_getElem? (i := 10) rfl), List.forall_mem_cons.mpr ⟨lq_X8_keepsAway_1 (List.mem_of_getElem? (i := 11) rfl), List.forall_mem_cons.mpr ⟨lq_X8_keepsAway_1 (List.mem_of_getElem? (i := 12) rfl), List.forall_mem_cons.mpr ⟨lq_X8_keepsAway_1 (List.mem_of_getElem? (i := 13) rfl), List.forall_mem_cons.mpr ⟨lq_X8_keepsAway_1 (List.mem_of_getElem? (i := 14) rfl), List.forall_mem_cons.mpr ⟨lq_X8_keepsAway_1 (List.mem_of_getElem? (i := 15) rfl), List.forall_mem_cons.mpr ⟨lq_X8_keepsAway_1 (List.mem_of_getElem? (i := 16) rfl), List.forall_mem_cons.mpr ⟨lq_X8_keepsAway_1 (List.mem_of_getElem? (i := 17) rfl), List.forall_mem_cons.mpr ⟨lq_X8_keepsAway_1 (List.mem_of_getElem? (i := 18) rfl), List.forall_mem_cons.mpr ⟨lq_X8_keepsAway_1 (List.mem_of_getElem? (i := 19) rfl), List.forall_mem_cons.mpr ⟨lq_X8_keepsAway_1 (List.mem_of_getElem? (i := 20) rfl), fun _ h => absurd h List.not_mem_nil⟩⟩⟩⟩⟩⟩⟩⟩⟩⟩⟩⟩⟩⟩⟩⟩⟩⟩⟩⟩⟩⟩⟩⟩), (show ∀ w ∈ (wsX8_isSlept_r2 : List Cond), w ∈ wsX8_keepsAway from List.forall_mem_cons.mpr ⟨lq_X8_keepsAway_1 (List.mem_of_getElem? (i := 21) rfl), List.forall_mem_cons.mpr ⟨lq_X8_keepsAway_1 (List.mem_of_getElem? (i := 22) rfl), List.forall_mem_cons.mpr ⟨lq_X8_keepsAway_1 (List.mem_of_getElem? (i := 23) rfl), List.forall_mem_cons.mpr ⟨lq_X8_keepsAway_2 (List.mem_of_getElem? (i := 0) rfl), List.forall_mem_cons.mpr ⟨lq_X8_keepsAway_2 (List.mem_of_getElem? (i := 1) rfl), fun _ h => absurd h List.not_mem_nil⟩⟩⟩⟩⟩)⟩), lt_X8_keepsAway_X8⟩)⟩) (by decide +kernel)
set_option maxRecDepth 20000 in
theorem gX8_keepsAway_X8_isSlept : GoodIn wsX8_keepsAway (wsV RX8 174 RX8 yX8_isSlept wsX8_isSlept) := goodIn_app (goodIn_sub (List.forall_mem_cons.mpr ⟨lq_X8_keepsAway_0 (List.mem_of_getElem? (i := 19) rfl), List.forall_mem_cons.mpr ⟨lq_X8_keepsAway_0 (List.mem_of_getElem? (i := 20) rfl), List.forall_mem_cons.mpr ⟨lq_X8_keepsAway_0 (List.mem_of_getElem? (i := 21) rfl), List.forall_mem_cons.mpr ⟨lq_X8_keepsAway_0 (List.mem_of_getElem? (i := 7) rfl), fun _ h => absurd h List.not_mem_nil⟩⟩⟩⟩) (by decide +kernel)) ggX8_keepsAway_X8_isSlept
theorem dX8_keepsAway_0 : decode cX8_keepsAway 0 = .ok (.aload_n 0, 1) := by decide +kernel
theorem dX8_keepsAway_1 : decode cX8_keepsAway 1 = .ok (.iload_n 1, 1) := by decide +kernel
theorem dX8_keepsAway_2 : decode cX8_keepsAway 2 = .ok (.invokevirtual 147, 3) := by decide +kernel
theorem dX8_keepsAway_5 : decode cX8_keepsAway 5 = .ok (.ifCond .eq 25, 3) := by decide +kernel
theorem dX8_keepsAway_8 : decode cX8_keepsAway 8 = .ok (.iload_n 2, 1) := by decide +kernel
theorem dX8_keepsAway_9 : decode cX8_keepsAway 9 = .ok (.i2l, 1) := by decide +kernel
theorem dX8_keepsAway_10 : decode cX8_keepsAway 10 = .ok (.lconst 1, 1) := by decide +kernel
theorem dX8_keepsAway_11 : decode cX8_keepsAway 11 = .ok (.ldc2_w 160, 3) := by decide +kernel
theorem dX8_keepsAway_14 : decode cX8_keepsAway 14 = .ok (.invokestatic 42, 3) := by decide +kernel
theorem dX8_keepsAway_17 : decode cX8_keepsAway 17 = .ok (.ifCond .eq 13, 3) := by decide +kernel
theorem dX8_keepsAway_20 : decode cX8_keepsAway 20 = .ok (.iload_n 3, 1) := by decide +kernel
theorem dX8_keepsAway_21 : decode cX8_keepsAway 21 = .ok (.i2l, 1) := by decide +kernel
theorem dX8_keepsAway_22 : decode cX8_keepsAway 22 = .ok (.lconst 0, 1) := by decide +kernel
theorem dX8_keepsAway_23 : decode cX8_keepsAway 23 = .ok (.lconst 1, 1) := by decide +kernel
theorem dX8_keepsAway_24 : decode cX8_keepsAway 24 = .ok (.invokestatic 42, 3) := by decide +kernel
theorem dX8_keepsAway_27 : decode cX8_keepsAway 27 = .ok (.ifCond .ne 6, 3) := by decide +kernel
theorem dX8_keepsAway_30 : decode cX8_keepsAway 30 = .ok (.ldc 48, 2) := by decide +kernel
theorem dX8_keepsAway_32 : decode cX8_keepsAway 32 = .ok (.ireturn, 1) := by decide +kernel
theorem dX8_keepsAway_33 : decode cX8_keepsAway 33 = .ok (.iconst 0, 1) := by decide +kernel
theorem dX8_keepsAway_34 : decode cX8_keepsAway 34 = .ok (.istore 4, 2) := by decide +kernel
theorem dX8_keepsAway_36 : decode cX8_keepsAway 36 = .ok (.iload 4, 2) := by decide +kernel
theorem dX8_keepsAway_38 : decode cX8_keepsAway 38 = .ok (.iconst 4, 1) := by decide +kernel
theorem dX8_keepsAway_39 : decode cX8_keepsAway 39 = .ok (.if_icmp .ge 95, 3) := by decide +kernel
theorem dX8_keepsAway_42 : decode cX8_keepsAway 42 = .ok (.iconst 0, 1) := by decide +kernel
theorem dX8_keepsAway_43 : decode cX8_keepsAway 43 = .ok (.istore 5, 2) := by decide +kernel
theorem dX8_keepsAway_45 : decode cX8_keepsAway 45 = .ok (.iload 5, 2) := by decide +kernel
theorem dX8_keepsAway_47 : decode cX8_keepsAway 47 = .ok (.iconst 1, 1) := by decide +kernel
theorem dX8_keepsAway_48 : decode cX8_keepsAway 48 = .ok (.aload_n 0, 1) := by decide +kernel
theorem dX8_keepsAway_49 : decode cX8_keepsAway 49 = .ok (.getfield 7, 3) := by decide +kernel
theorem dX8_keepsAway_52 : decode cX8_keepsAway 52 = .ok (.iconst 1, 1) := by decide +kernel
theorem dX8_keepsAway_53 : decode cX8_keepsAway 53 = .ok (.iaload, 1) := by decide +kernel
theorem dX8_keepsAway_54 : decode cX8_keepsAway 54 = .ok (.ishl, 1) := by decide +kernel
theorem dX8_keepsAway_55 : decode cX8_keepsAway 55 = .ok (.if_icmp .ge 73, 3) := by decide +kernel
theorem dX8_keepsAway_58 : decode cX8_keepsAway 58 = .ok (.iload 5, 2) := by decide +kernel
theorem dX8_keepsAway_60 : decode cX8_keepsAway 60 = .ok (.invokestatic 152, 3) := by decide +kernel
theorem dX8_keepsAway_63 : decode cX8_keepsAway 63 = .ok (.iload 4, 2) := by decide +kernel
theorem dX8_keepsAway_65 : decode cX8_keepsAway 65 = .ok (.if_icmp .ne 57, 3) := by decide +kernel
theorem dX8_keepsAway_68 : decode cX8_keepsAway 68 = .ok (.iload 5, 2) := by decide +kernel
theorem dX8_keepsAway_70 : decode cX8_keepsAway 70 = .ok (.aload_n 0, 1) := by decide +kernel
theorem dX8_keepsAway_71 : decode cX8_keepsAway 71 = .ok (.getfield 7, 3) := by decide +kernel
theorem dX8_keepsAway_74 : decode cX8_keepsAway 74 = .ok (.bipush 31, 2) := by decide +kernel
theorem dX8_keepsAway_76 : decode cX8_keepsAway 76 = .ok (.iaload, 1) := by decide +kernel
theorem dX8_keepsAway_77 : decode cX8_keepsAway 77 = .ok (.iand, 1) := by decide +kernel
theorem dX8_keepsAway_78 : decode cX8_keepsAway 78 = .ok (.ifCond .ne 44, 3) := by decide +kernel
theorem dX8_keepsAway_81 : decode cX8_keepsAway 81 = .ok (.aload_n 0, 1) := by decide +kernel
theorem dX8_keepsAway_82 : decode cX8_keepsAway 82 = .ok (.iconst 0, 1) := by decide +kernel
theorem dX8_keepsAway_83 : decode cX8_keepsAway 83 = .ok (.bipush 27, 2) := by decide +kernel
theorem dX8_keepsAway_85 : decode cX8_keepsAway 85 = .ok (.invokevirtual 114, 3) := by decide +kernel
theorem dX8_keepsAway_88 : decode cX8_keepsAway 88 = .ok (.aload_n 0, 1) := by decide +kernel
theorem dX8_keepsAway_89 : decode cX8_keepsAway 89 = .ok (.getfield 7, 3) := by decide +kernel
theorem dX8_keepsAway_92 : decode cX8_keepsAway 92 = .ok (.sipush 1570, 3) := by decide +kernel
theorem dX8_keepsAway_95 : decode cX8_keepsAway 95 = .ok (.dup2, 1) := by decide +kernel
theorem dX8_keepsAway_96 : decode cX8_keepsAway 96 = .ok (.iaload, 1) := by decide +kernel
theorem dX8_keepsAway_97 : decode cX8_keepsAway 97 = .ok (.iload 5, 2) := by decide +kernel
theorem dX8_keepsAway_99 : decode cX8_keepsAway 99 = .ok (.ior, 1) := by decide +kernel
theorem dX8_keepsAway_100 : decode cX8_keepsAway 100 = .ok (.iastore, 1) := by decide +kernel
theorem dX8_keepsAway_101 : decode cX8_keepsAway 101 = .ok (.aload_n 0, 1) := by decide +kernel
theorem dX8_keepsAway_102 : decode cX8_keepsAway 102 = .ok (.iload_n 1, 1) := by decide +kernel
theorem dX8_keepsAway_103 : decode cX8_keepsAway 103 = .ok (.iload_n 2, 1) := by decide +kernel
theorem dX8_keepsAway_104 : decode cX8_keepsAway 104 = .ok (.invokevirtual 174, 3) := by decide +kernel
theorem dX8_keepsAway_107 : decode cX8_keepsAway 107 = .ok (.ifCond .ne 15, 3) := by decide +kernel
theorem dX8_keepsAway_110 : decode cX8_keepsAway 110 = .ok (.iload_n 3, 1) := by decide +kernel
theorem dX8_keepsAway_111 : decode cX8_keepsAway 111 = .ok (.ifCond .ne 8, 3) := by decide +kernel
theorem dX8_keepsAway_114 : decode cX8_keepsAway 114 = .ok (.iload 4, 2) := by decide +kernel
theorem dX8_keepsAway_116 : decode cX8_keepsAway 116 = .ok (.goto 5, 3) := by decide +kernel
theorem dX8_keepsAway_119 : decode cX8_keepsAway 119 = .ok (.iload 5, 2) := by decide +kernel
theorem dX8_keepsAway_121 : decode cX8_keepsAway 121 = .ok (.ireturn, 1) := by decide +kernel
theorem dX8_keepsAway_122 : decode cX8_keepsAway 122 = .ok (.iinc 5 1, 3) := by decide +kernel
theorem dX8_keepsAway_125 : decode cX8_keepsAway 125 = .ok (.goto (-80), 3) := by decide +kernel
theorem dX8_keepsAway_128 : decode cX8_keepsAway 128 = .ok (.iinc 4 1, 3) := by decide +kernel
theorem dX8_keepsAway_131 : decode cX8_keepsAway 131 = .ok (.goto (-95), 3) := by decide +kernel
theorem dX8_keepsAway_134 : decode cX8_keepsAway 134 = .ok (.ldc 99, 2) := by decide +kernel
theorem dX8_keepsAway_136 : decode cX8_keepsAway 136 = .ok (.ireturn, 1) := by decide +kernel
theorem lq_X8_hasBy_0 {w : Cond} (h : w ∈ (wsX8_hasBy_r1 : List Cond)) : w ∈ wsX8_hasBy := List.mem_cons_of_mem _ (List.mem_append_left _ (List.mem_append_left _ (h)))
theorem lq_X8_hasBy_1 {w : Cond} (h : w ∈ (wsX8_hasBy_r2 : List Cond)) : w ∈ wsX8_hasBy := List.mem_cons_of_mem _ (List.mem_append_left _ (List.mem_append_right _ (h)))
theorem lt_X8_hasBy_X8 : ∀ w ∈ wsX80, w ∈ wsX8_hasBy := fun _ h => List.mem_cons_of_mem _ (List.mem_append_right _ (h))
set_option maxRecDepth 20000 in
theorem ggX8_hasBy_X8_copies : GoodIn wsX8_hasBy wsX8_copies := goodIn_sub (List.forall_mem_cons.mpr ⟨lq_X8_hasBy_0 (List.mem_of_getElem? (i := 5) rfl), (List.forall_mem_append.mpr ⟨(show ∀ w ∈ ([.fieldLink RX8 7 "WinterWalkModel" "slot" "[I"] : List Cond), w ∈ wsX8_hasBy from List.forall_mem_cons.mpr ⟨lq_X8_hasBy_0 (List.mem_of_getElem? (i := 0) rfl), fun _ h => absurd h List.not_mem_nil⟩), lt_X8_hasBy_X8⟩)⟩) (by decide +kernel)
set_option maxRecDepth 20000 in
theorem gX8_hasBy_X8_copies : GoodIn wsX8_hasBy (wsV RX8 114 RX8 yX8_copies wsX8_copies) := goodIn_app (goodIn_sub (List.forall_mem_cons.mpr ⟨lq_X8_hasBy_0 (List.mem_of_getElem? (i := 1) rfl), List.forall_mem_cons.mpr ⟨lq_X8_hasBy_0 (List.mem_of_getElem? (i := 2) rfl), List.forall_mem_cons.mpr ⟨lq_X8_hasBy_0 (List.mem_of_getElem? (i := 3) rfl), List.forall_mem_cons.mpr ⟨lq_X8_hasBy_0 (List.mem_of_getElem? (i := 4) rfl), fun _ h => absurd h List.not_mem_nil⟩⟩⟩⟩) (by decide +kernel)) ggX8_hasBy_X8_copies
set_option maxRecDepth 20000 in
theorem ggX8_hasBy_X8_day : GoodIn wsX8_hasBy wsX8_day := goodIn_sub (List.forall_mem_cons.mpr ⟨lq_X8_hasBy_0 (List.mem_of_getElem? (i := 9) rfl), (List.forall_mem_append.mpr ⟨(List.forall_mem_append.mpr ⟨(show ∀ w ∈ (wsX8_day_r1 : List Cond), w ∈ wsX8_hasBy from List.forall_mem_cons.mpr ⟨lq_X8_hasBy_0 (List.mem_of_getElem? (i := 0) rfl), List.forall_mem_cons.mpr ⟨lq_X8_hasBy_0 (List.mem_of_getElem? (i := 10) rfl), List.forall_mem_cons.mpr ⟨lq_X8_hasBy_0 (List.mem_of_getElem? (i := 11) rfl), List.forall_mem_cons.mpr ⟨lq_X8_hasBy_0 (List.mem_of_getElem? (i := 12) rfl), List.forall_mem_cons.mpr ⟨lq_X8_hasBy_0 (List.mem_of_getElem? (i := 4) rfl), List.forall_mem_cons.mpr ⟨lq_X8_hasBy_0 (List.mem_of_getElem? (i := 13) rfl), List.forall_mem_cons.mpr ⟨lq_X8_hasBy_0 (List.mem_of_getElem? (i := 14) rfl), List.forall_mem_cons.mpr ⟨lq_X8_hasBy_0 (List.mem_of_getElem? (i := 15) rfl), List.forall_mem_cons.mpr ⟨lq_X8_hasBy_0 (List.mem_of_getElem? (i := 16) rfl), List.forall_mem_cons.mpr ⟨lq_X8_hasBy_0 (List.mem_of_getElem? (i := 17) rfl), List.forall_mem_cons.mpr ⟨lq_X8_hasBy_0 (List.mem_of_getElem? (i := 18) rfl), List.forall_mem_cons.mpr ⟨lq_X8_hasBy_0 (List.mem_of_getElem? (i := 19) rfl), List.forall_mem_cons.mpr ⟨lq_X8_hasBy_0 (List.mem_of_getElem? (i := 20) rfl), List.forall_mem_cons.mpr ⟨lq_X8_hasBy_0 (List.mem_of_getElem? (i := 21) rfl), List.forall_mem_cons.mpr ⟨lq_X8_hasBy_0 (List.mem_of_getElem? (i := 22) rfl), List.forall_mem_cons.mpr ⟨lq_X8_hasBy_0 (List.mem_of_getElem? (i := 23) rfl), List.forall_mem_cons.mpr ⟨lq_X8_hasBy_1 (List.mem_of_getElem? (i := 0) rfl), List.forall_mem_cons.mpr ⟨lq_X8_hasBy_1 (List.mem_of_getElem? (i := 1) rfl), List.forall_mem_cons.mpr ⟨lq_X8_hasBy_1 (List.mem_of_getElem? (i := 2) rfl), List.forall_mem_cons.mpr ⟨lq_X8_hasBy_1 (List.mem_of_getElem? (i := 3) rfl), List.forall_mem_cons.mpr ⟨lq_X8_hasBy_1 (List.mem_of_getElem? (i := 4) rfl), List.forall_mem_cons.mpr ⟨lq_X8_hasBy_1 (List.mem_of_getElem? (i := 5) rfl), List.forall_mem_cons.mpr ⟨lq_X8_hasBy_1 (List.mem_of_getElem? (i := 6) rfl), List.forall_mem_cons.mpr ⟨lq_X8_hasBy_1 (List.mem_of_getElem? (i := 7) rfl), fun _ h => absurd h List.not_mem_nil⟩⟩⟩⟩⟩⟩⟩⟩⟩⟩⟩⟩⟩⟩⟩⟩⟩⟩⟩⟩⟩⟩⟩⟩), (show ∀ w ∈ (wsX8_day_r2 : List Cond), w ∈ wsX8_hasBy from List.forall_mem_cons.mpr ⟨lq_X8_hasBy_1 (List.mem_of_getElem? (i := 8) rfl), fun _ h => absurd h List.not_mem_nil⟩)⟩), lt_X8_hasBy_X8⟩)⟩) (by decide +kernel)
set_option maxRecDepth 20000 in
theorem gX8_hasBy_X8_day : GoodIn wsX8_hasBy (wsV RX8 139 RX8 yX8_day wsX8_day) := goodIn_app (goodIn_sub (List.forall_mem_cons.mpr ⟨lq_X8_hasBy_0 (List.mem_of_getElem? (i := 6) rfl), List.forall_mem_cons.mpr ⟨lq_X8_hasBy_0 (List.mem_of_getElem? (i := 7) rfl), List.forall_mem_cons.mpr ⟨lq_X8_hasBy_0 (List.mem_of_getElem? (i := 8) rfl), List.forall_mem_cons.mpr ⟨lq_X8_hasBy_0 (List.mem_of_getElem? (i := 4) rfl), fun _ h => absurd h List.not_mem_nil⟩⟩⟩⟩) (by decide +kernel)) ggX8_hasBy_X8_day
theorem dX8_hasBy_0 : decode cX8_hasBy 0 = .ok (.aload_n 0, 1) := by decide +kernel
theorem dX8_hasBy_1 : decode cX8_hasBy 1 = .ok (.iconst 0, 1) := by decide +kernel
theorem dX8_hasBy_2 : decode cX8_hasBy 2 = .ok (.bipush 27, 2) := by decide +kernel
theorem dX8_hasBy_4 : decode cX8_hasBy 4 = .ok (.invokevirtual 114, 3) := by decide +kernel
theorem dX8_hasBy_7 : decode cX8_hasBy 7 = .ok (.aload_n 0, 1) := by decide +kernel
theorem dX8_hasBy_8 : decode cX8_hasBy 8 = .ok (.getfield 7, 3) := by decide +kernel
theorem dX8_hasBy_11 : decode cX8_hasBy 11 = .ok (.sipush 1562, 3) := by decide +kernel
theorem dX8_hasBy_14 : decode cX8_hasBy 14 = .ok (.iload_n 1, 1) := by decide +kernel
theorem dX8_hasBy_15 : decode cX8_hasBy 15 = .ok (.iadd, 1) := by decide +kernel
theorem dX8_hasBy_16 : decode cX8_hasBy 16 = .ok (.iload_n 2, 1) := by decide +kernel
theorem dX8_hasBy_17 : decode cX8_hasBy 17 = .ok (.iastore, 1) := by decide +kernel
theorem dX8_hasBy_18 : decode cX8_hasBy 18 = .ok (.iconst 0, 1) := by decide +kernel
theorem dX8_hasBy_19 : decode cX8_hasBy 19 = .ok (.istore 4, 2) := by decide +kernel
theorem dX8_hasBy_21 : decode cX8_hasBy 21 = .ok (.iconst 0, 1) := by decide +kernel
theorem dX8_hasBy_22 : decode cX8_hasBy 22 = .ok (.istore 5, 2) := by decide +kernel
theorem dX8_hasBy_24 : decode cX8_hasBy 24 = .ok (.iload 5, 2) := by decide +kernel
theorem dX8_hasBy_26 : decode cX8_hasBy 26 = .ok (.iload_n 3, 1) := by decide +kernel
theorem dX8_hasBy_27 : decode cX8_hasBy 27 = .ok (.if_icmp .ge 100, 3) := by decide +kernel
theorem dX8_hasBy_30 : decode cX8_hasBy 30 = .ok (.aload_n 0, 1) := by decide +kernel
theorem dX8_hasBy_31 : decode cX8_hasBy 31 = .ok (.bipush 27, 2) := by decide +kernel
theorem dX8_hasBy_33 : decode cX8_hasBy 33 = .ok (.iconst (-1), 1) := by decide +kernel
theorem dX8_hasBy_34 : decode cX8_hasBy 34 = .ok (.invokevirtual 139, 3) := by decide +kernel
theorem dX8_hasBy_37 : decode cX8_hasBy 37 = .ok (.iconst 0, 1) := by decide +kernel
theorem dX8_hasBy_38 : decode cX8_hasBy 38 = .ok (.istore 6, 2) := by decide +kernel
theorem dX8_hasBy_40 : decode cX8_hasBy 40 = .ok (.iload 6, 2) := by decide +kernel
theorem dX8_hasBy_42 : decode cX8_hasBy 42 = .ok (.aload_n 0, 1) := by decide +kernel
theorem dX8_hasBy_43 : decode cX8_hasBy 43 = .ok (.getfield 7, 3) := by decide +kernel
theorem dX8_hasBy_46 : decode cX8_hasBy 46 = .ok (.iconst 2, 1) := by decide +kernel
theorem dX8_hasBy_47 : decode cX8_hasBy 47 = .ok (.iaload, 1) := by decide +kernel
theorem dX8_hasBy_48 : decode cX8_hasBy 48 = .ok (.if_icmp .ge 73, 3) := by decide +kernel
theorem dX8_hasBy_51 : decode cX8_hasBy 51 = .ok (.aload_n 0, 1) := by decide +kernel
theorem dX8_hasBy_52 : decode cX8_hasBy 52 = .ok (.getfield 7, 3) := by decide +kernel
theorem dX8_hasBy_55 : decode cX8_hasBy 55 = .ok (.sipush 1587, 3) := by decide +kernel
theorem dX8_hasBy_58 : decode cX8_hasBy 58 = .ok (.iload 6, 2) := by decide +kernel
theorem dX8_hasBy_60 : decode cX8_hasBy 60 = .ok (.iadd, 1) := by decide +kernel
theorem dX8_hasBy_61 : decode cX8_hasBy 61 = .ok (.iaload, 1) := by decide +kernel
theorem dX8_hasBy_62 : decode cX8_hasBy 62 = .ok (.iload_n 1, 1) := by decide +kernel
theorem dX8_hasBy_63 : decode cX8_hasBy 63 = .ok (.if_icmp .ne 7, 3) := by decide +kernel
theorem dX8_hasBy_66 : decode cX8_hasBy 66 = .ok (.iconst 1, 1) := by decide +kernel
theorem dX8_hasBy_67 : decode cX8_hasBy 67 = .ok (.goto 4, 3) := by decide +kernel
theorem dX8_hasBy_70 : decode cX8_hasBy 70 = .ok (.iconst 0, 1) := by decide +kernel
theorem dX8_hasBy_71 : decode cX8_hasBy 71 = .ok (.istore 7, 2) := by decide +kernel
theorem dX8_hasBy_73 : decode cX8_hasBy 73 = .ok (.iload 4, 2) := by decide +kernel
theorem dX8_hasBy_75 : decode cX8_hasBy 75 = .ok (.iload 7, 2) := by decide +kernel
theorem dX8_hasBy_77 : decode cX8_hasBy 77 = .ok (.ifCond .eq 34, 3) := by decide +kernel
theorem dX8_hasBy_80 : decode cX8_hasBy 80 = .ok (.aload_n 0, 1) := by decide +kernel
theorem dX8_hasBy_81 : decode cX8_hasBy 81 = .ok (.getfield 7, 3) := by decide +kernel
theorem dX8_hasBy_84 : decode cX8_hasBy 84 = .ok (.iconst 4, 1) := by decide +kernel
theorem dX8_hasBy_85 : decode cX8_hasBy 85 = .ok (.iload_n 1, 1) := by decide +kernel
theorem dX8_hasBy_86 : decode cX8_hasBy 86 = .ok (.iadd, 1) := by decide +kernel
theorem dX8_hasBy_87 : decode cX8_hasBy 87 = .ok (.iaload, 1) := by decide +kernel
theorem dX8_hasBy_88 : decode cX8_hasBy 88 = .ok (.aload_n 0, 1) := by decide +kernel
theorem dX8_hasBy_89 : decode cX8_hasBy 89 = .ok (.getfield 7, 3) := by decide +kernel
theorem dX8_hasBy_92 : decode cX8_hasBy 92 = .ok (.bipush 20, 2) := by decide +kernel
theorem dX8_hasBy_94 : decode cX8_hasBy 94 = .ok (.iload 6, 2) := by decide +kernel
theorem dX8_hasBy_96 : decode cX8_hasBy 96 = .ok (.iadd, 1) := by decide +kernel
theorem dX8_hasBy_97 : decode cX8_hasBy 97 = .ok (.iaload, 1) := by decide +kernel
theorem dX8_hasBy_98 : decode cX8_hasBy 98 = .ok (.iconst 4, 1) := by decide +kernel
theorem dX8_hasBy_99 : decode cX8_hasBy 99 = .ok (.if_icmp .ge 7, 3) := by decide +kernel
theorem dX8_hasBy_102 : decode cX8_hasBy 102 = .ok (.iload_n 2, 1) := by decide +kernel
theorem dX8_hasBy_103 : decode cX8_hasBy 103 = .ok (.goto 4, 3) := by decide +kernel
theorem dX8_hasBy_106 : decode cX8_hasBy 106 = .ok (.iconst 0, 1) := by decide +kernel
theorem dX8_hasBy_107 : decode cX8_hasBy 107 = .ok (.isub, 1) := by decide +kernel
theorem dX8_hasBy_108 : decode cX8_hasBy 108 = .ok (.goto 4, 3) := by decide +kernel
theorem dX8_hasBy_111 : decode cX8_hasBy 111 = .ok (.iconst 0, 1) := by decide +kernel
theorem dX8_hasBy_112 : decode cX8_hasBy 112 = .ok (.iadd, 1) := by decide +kernel
theorem dX8_hasBy_113 : decode cX8_hasBy 113 = .ok (.istore 4, 2) := by decide +kernel
theorem dX8_hasBy_115 : decode cX8_hasBy 115 = .ok (.iinc 6 1, 3) := by decide +kernel
theorem dX8_hasBy_118 : decode cX8_hasBy 118 = .ok (.goto (-78), 3) := by decide +kernel
theorem dX8_hasBy_121 : decode cX8_hasBy 121 = .ok (.iinc 5 1, 3) := by decide +kernel
theorem dX8_hasBy_124 : decode cX8_hasBy 124 = .ok (.goto (-100), 3) := by decide +kernel
theorem dX8_hasBy_127 : decode cX8_hasBy 127 = .ok (.iload 4, 2) := by decide +kernel
theorem dX8_hasBy_129 : decode cX8_hasBy 129 = .ok (.ireturn, 1) := by decide +kernel
theorem lq_X8_bid_0 {w : Cond} (h : w ∈ (wsX8_bid_r1 : List Cond)) : w ∈ wsX8_bid := List.mem_cons_of_mem _ (List.mem_append_left _ (List.mem_append_left _ (h)))
theorem lq_X8_bid_1 {w : Cond} (h : w ∈ (wsX8_bid_r2 : List Cond)) : w ∈ wsX8_bid := List.mem_cons_of_mem _ (List.mem_append_left _ (List.mem_append_right _ (h)))
theorem lt_X8_bid_X8 : ∀ w ∈ wsX80, w ∈ wsX8_bid := fun _ h => List.mem_cons_of_mem _ (List.mem_append_right _ (h))
set_option maxRecDepth 20000 in
theorem ggX8_bid_X8_isVillageThere : GoodIn wsX8_bid wsX8_isVillageThere := goodIn_sub (List.forall_mem_cons.mpr ⟨lq_X8_bid_0 (List.mem_of_getElem? (i := 6) rfl), (List.forall_mem_append.mpr ⟨(show ∀ w ∈ ([.fieldLink RX8 7 "WinterWalkModel" "slot" "[I", .methodLink RX8 42 yX8_in, .static yX8_in, .initialized RX8, .code yX8_in cX8_in 6 (some .boolean)] : List Cond), w ∈ wsX8_bid from List.forall_mem_cons.mpr ⟨lq_X8_bid_0 (List.mem_of_getElem? (i := 7) rfl), List.forall_mem_cons.mpr ⟨lq_X8_bid_0 (List.mem_of_getElem? (i := 8) rfl), List.forall_mem_cons.mpr ⟨lq_X8_bid_0 (List.mem_of_getElem? (i := 9) rfl), List.forall_mem_cons.mpr ⟨lq_X8_bid_0 (List.mem_of_getElem? (i := 5) rfl), List.forall_mem_cons.mpr ⟨lq_X8_bid_0 (List.mem_of_getElem? (i := 10) rfl), fun _ h => absurd h List.not_mem_nil⟩⟩⟩⟩⟩), lt_X8_bid_X8⟩)⟩) (by decide +kernel)
set_option maxRecDepth 20000 in
theorem gX8_bid_X8_isVillageThere : GoodIn wsX8_bid (wsV RX8 147 RX8 yX8_isVillageThere wsX8_isVillageThere) := goodIn_app (goodIn_sub (List.forall_mem_cons.mpr ⟨lq_X8_bid_0 (List.mem_of_getElem? (i := 2) rfl), List.forall_mem_cons.mpr ⟨lq_X8_bid_0 (List.mem_of_getElem? (i := 3) rfl), List.forall_mem_cons.mpr ⟨lq_X8_bid_0 (List.mem_of_getElem? (i := 4) rfl), List.forall_mem_cons.mpr ⟨lq_X8_bid_0 (List.mem_of_getElem? (i := 5) rfl), fun _ h => absurd h List.not_mem_nil⟩⟩⟩⟩) (by decide +kernel)) ggX8_bid_X8_isVillageThere
set_option maxRecDepth 20000 in
theorem ggX8_bid_X8_in : GoodIn wsX8_bid wsX8_in := goodIn_sub (List.forall_mem_cons.mpr ⟨lq_X8_bid_0 (List.mem_of_getElem? (i := 10) rfl), (show ∀ w ∈ ([] : List Cond), w ∈ wsX8_bid from fun _ h => absurd h List.not_mem_nil)⟩) (by decide +kernel)
set_option maxRecDepth 20000 in
theorem gX8_bid_X8_in : GoodIn wsX8_bid (va_wsS RX8 42 yX8_in wsX8_in) := goodIn_app (goodIn_sub (List.forall_mem_cons.mpr ⟨lq_X8_bid_0 (List.mem_of_getElem? (i := 8) rfl), List.forall_mem_cons.mpr ⟨lq_X8_bid_0 (List.mem_of_getElem? (i := 9) rfl), List.forall_mem_cons.mpr ⟨lq_X8_bid_0 (List.mem_of_getElem? (i := 5) rfl), fun _ h => absurd h List.not_mem_nil⟩⟩⟩) (by decide +kernel)) ggX8_bid_X8_in
set_option maxRecDepth 20000 in
theorem ggX8_bid_X8_hasBy : GoodIn wsX8_bid wsX8_hasBy := goodIn_sub (List.forall_mem_cons.mpr ⟨lq_X8_bid_0 (List.mem_of_getElem? (i := 14) rfl), (List.forall_mem_append.mpr ⟨(List.forall_mem_append.mpr ⟨(show ∀ w ∈ (wsX8_hasBy_r1 : List Cond), w ∈ wsX8_bid from List.forall_mem_cons.mpr ⟨lq_X8_bid_0 (List.mem_of_getElem? (i := 7) rfl), List.forall_mem_cons.mpr ⟨lq_X8_bid_0 (List.mem_of_getElem? (i := 15) rfl), List.forall_mem_cons.mpr ⟨lq_X8_bid_0 (List.mem_of_getElem? (i := 16) rfl), List.forall_mem_cons.mpr ⟨lq_X8_bid_0 (List.mem_of_getElem? (i := 17) rfl), List.forall_mem_cons.mpr ⟨lq_X8_bid_0 (List.mem_of_getElem? (i := 5) rfl), List.forall_mem_cons.mpr ⟨lq_X8_bid_0 (List.mem_of_getElem? (i := 18) rfl), List.forall_mem_cons.mpr ⟨lq_X8_bid_0 (List.mem_of_getElem? (i := 19) rfl), List.forall_mem_cons.mpr ⟨lq_X8_bid_0 (List.mem_of_getElem? (i := 20) rfl), List.forall_mem_cons.mpr ⟨lq_X8_bid_0 (List.mem_of_getElem? (i := 21) rfl), List.forall_mem_cons.mpr ⟨lq_X8_bid_0 (List.mem_of_getElem? (i := 22) rfl), List.forall_mem_cons.mpr ⟨lq_X8_bid_0 (List.mem_of_getElem? (i := 23) rfl), List.forall_mem_cons.mpr ⟨lq_X8_bid_1 (List.mem_of_getElem? (i := 0) rfl), List.forall_mem_cons.mpr ⟨lq_X8_bid_1 (List.mem_of_getElem? (i := 1) rfl), List.forall_mem_cons.mpr ⟨lq_X8_bid_1 (List.mem_of_getElem? (i := 2) rfl), List.forall_mem_cons.mpr ⟨lq_X8_bid_1 (List.mem_of_getElem? (i := 3) rfl), List.forall_mem_cons.mpr ⟨lq_X8_bid_1 (List.mem_of_getElem? (i := 4) rfl), List.forall_mem_cons.mpr ⟨lq_X8_bid_1 (List.mem_of_getElem? (i := 5) rfl), List.forall_mem_cons.mpr ⟨lq_X8_bid_1 (List.mem_of_getElem? (i := 6) rfl), List.forall_mem_cons.mpr ⟨lq_X8_bid_1 (List.mem_of_getElem? (i := 7) rfl), List.forall_mem_cons.mpr ⟨lq_X8_bid_1 (List.mem_of_getElem? (i := 8) rfl), List.forall_mem_cons.mpr ⟨lq_X8_bid_1 (List.mem_of_getElem? (i := 9) rfl), List.forall_mem_cons.mpr ⟨lq_X8_bid_1 (List.mem_of_getElem? (i := 10) rfl), List.forall_mem_cons.mpr ⟨lq_X8_bid_1 (List.mem_of_getElem? (i := 11) rfl), List.forall_mem_cons.mpr ⟨lq_X8_bid_1 (List.mem_of_getElem? (i := 12) rfl), fun _ h => absurd h List.not_mem_nil⟩⟩⟩⟩⟩⟩⟩⟩⟩⟩⟩⟩⟩⟩⟩⟩⟩⟩⟩⟩⟩⟩⟩⟩), (show ∀ w ∈ (wsX8_hasBy_r2 : List Cond), w ∈ wsX8_bid from List.forall_mem_cons.mpr ⟨lq_X8_bid_1 (List.mem_of_getElem? (i := 13) rfl), List.forall_mem_cons.mpr ⟨lq_X8_bid_1 (List.mem_of_getElem? (i := 14) rfl), List.forall_mem_cons.mpr ⟨lq_X8_bid_1 (List.mem_of_getElem? (i := 15) rfl), List.forall_mem_cons.mpr ⟨lq_X8_bid_1 (List.mem_of_getElem? (i := 16) rfl), List.forall_mem_cons.mpr ⟨lq_X8_bid_1 (List.mem_of_getElem? (i := 17) rfl), List.forall_mem_cons.mpr ⟨lq_X8_bid_1 (List.mem_of_getElem? (i := 18) rfl), List.forall_mem_cons.mpr ⟨lq_X8_bid_1 (List.mem_of_getElem? (i := 19) rfl), List.forall_mem_cons.mpr ⟨lq_X8_bid_1 (List.mem_of_getElem? (i := 20) rfl), List.forall_mem_cons.mpr ⟨lq_X8_bid_1 (List.mem_of_getElem? (i := 21) rfl), fun _ h => absurd h List.not_mem_nil⟩⟩⟩⟩⟩⟩⟩⟩⟩)⟩), lt_X8_bid_X8⟩)⟩) (by decide +kernel)
set_option maxRecDepth 20000 in
theorem gX8_bid_X8_hasBy : GoodIn wsX8_bid (wsV RX8 179 RX8 yX8_hasBy wsX8_hasBy) := goodIn_app (goodIn_sub (List.forall_mem_cons.mpr ⟨lq_X8_bid_0 (List.mem_of_getElem? (i := 11) rfl), List.forall_mem_cons.mpr ⟨lq_X8_bid_0 (List.mem_of_getElem? (i := 12) rfl), List.forall_mem_cons.mpr ⟨lq_X8_bid_0 (List.mem_of_getElem? (i := 13) rfl), List.forall_mem_cons.mpr ⟨lq_X8_bid_0 (List.mem_of_getElem? (i := 5) rfl), fun _ h => absurd h List.not_mem_nil⟩⟩⟩⟩) (by decide +kernel)) ggX8_bid_X8_hasBy
theorem dX8_bid_0 : decode cX8_bid 0 = .ok (.aload_n 0, 1) := by decide +kernel
theorem dX8_bid_1 : decode cX8_bid 1 = .ok (.iload_n 1, 1) := by decide +kernel
theorem dX8_bid_2 : decode cX8_bid 2 = .ok (.invokevirtual 147, 3) := by decide +kernel
theorem dX8_bid_5 : decode cX8_bid 5 = .ok (.ifCond .eq 25, 3) := by decide +kernel
theorem dX8_bid_8 : decode cX8_bid 8 = .ok (.iload_n 2, 1) := by decide +kernel
theorem dX8_bid_9 : decode cX8_bid 9 = .ok (.i2l, 1) := by decide +kernel
theorem dX8_bid_10 : decode cX8_bid 10 = .ok (.lconst 1, 1) := by decide +kernel
theorem dX8_bid_11 : decode cX8_bid 11 = .ok (.ldc2_w 177, 3) := by decide +kernel
theorem dX8_bid_14 : decode cX8_bid 14 = .ok (.invokestatic 42, 3) := by decide +kernel
theorem dX8_bid_17 : decode cX8_bid 17 = .ok (.ifCond .eq 13, 3) := by decide +kernel
theorem dX8_bid_20 : decode cX8_bid 20 = .ok (.iload_n 3, 1) := by decide +kernel
theorem dX8_bid_21 : decode cX8_bid 21 = .ok (.i2l, 1) := by decide +kernel
theorem dX8_bid_22 : decode cX8_bid 22 = .ok (.lconst 0, 1) := by decide +kernel
theorem dX8_bid_23 : decode cX8_bid 23 = .ok (.lconst 1, 1) := by decide +kernel
theorem dX8_bid_24 : decode cX8_bid 24 = .ok (.invokestatic 42, 3) := by decide +kernel
theorem dX8_bid_27 : decode cX8_bid 27 = .ok (.ifCond .ne 6, 3) := by decide +kernel
theorem dX8_bid_30 : decode cX8_bid 30 = .ok (.ldc 48, 2) := by decide +kernel
theorem dX8_bid_32 : decode cX8_bid 32 = .ok (.ireturn, 1) := by decide +kernel
theorem dX8_bid_33 : decode cX8_bid 33 = .ok (.iconst (-1), 1) := by decide +kernel
theorem dX8_bid_34 : decode cX8_bid 34 = .ok (.istore 4, 2) := by decide +kernel
theorem dX8_bid_36 : decode cX8_bid 36 = .ok (.iconst 0, 1) := by decide +kernel
theorem dX8_bid_37 : decode cX8_bid 37 = .ok (.istore 5, 2) := by decide +kernel
theorem dX8_bid_39 : decode cX8_bid 39 = .ok (.iconst 0, 1) := by decide +kernel
theorem dX8_bid_40 : decode cX8_bid 40 = .ok (.istore 6, 2) := by decide +kernel
theorem dX8_bid_42 : decode cX8_bid 42 = .ok (.iload 6, 2) := by decide +kernel
theorem dX8_bid_44 : decode cX8_bid 44 = .ok (.bipush 21, 2) := by decide +kernel
theorem dX8_bid_46 : decode cX8_bid 46 = .ok (.if_icmp .ge 39, 3) := by decide +kernel
theorem dX8_bid_49 : decode cX8_bid 49 = .ok (.aload_n 0, 1) := by decide +kernel
theorem dX8_bid_50 : decode cX8_bid 50 = .ok (.iload_n 1, 1) := by decide +kernel
theorem dX8_bid_51 : decode cX8_bid 51 = .ok (.iload 6, 2) := by decide +kernel
theorem dX8_bid_53 : decode cX8_bid 53 = .ok (.iload_n 2, 1) := by decide +kernel
theorem dX8_bid_54 : decode cX8_bid 54 = .ok (.invokevirtual 179, 3) := by decide +kernel
theorem dX8_bid_57 : decode cX8_bid 57 = .ok (.istore 7, 2) := by decide +kernel
theorem dX8_bid_59 : decode cX8_bid 59 = .ok (.iload 4, 2) := by decide +kernel
theorem dX8_bid_61 : decode cX8_bid 61 = .ok (.ifCond .lt 10, 3) := by decide +kernel
theorem dX8_bid_64 : decode cX8_bid 64 = .ok (.iload 7, 2) := by decide +kernel
theorem dX8_bid_66 : decode cX8_bid 66 = .ok (.iload 5, 2) := by decide +kernel
theorem dX8_bid_68 : decode cX8_bid 68 = .ok (.if_icmp .le 11, 3) := by decide +kernel
theorem dX8_bid_71 : decode cX8_bid 71 = .ok (.iload 6, 2) := by decide +kernel
theorem dX8_bid_73 : decode cX8_bid 73 = .ok (.istore 4, 2) := by decide +kernel
theorem dX8_bid_75 : decode cX8_bid 75 = .ok (.iload 7, 2) := by decide +kernel
theorem dX8_bid_77 : decode cX8_bid 77 = .ok (.istore 5, 2) := by decide +kernel
theorem dX8_bid_79 : decode cX8_bid 79 = .ok (.iinc 6 1, 3) := by decide +kernel
theorem dX8_bid_82 : decode cX8_bid 82 = .ok (.goto (-40), 3) := by decide +kernel
theorem dX8_bid_85 : decode cX8_bid 85 = .ok (.iload_n 3, 1) := by decide +kernel
theorem dX8_bid_86 : decode cX8_bid 86 = .ok (.ifCond .ne 8, 3) := by decide +kernel
theorem dX8_bid_89 : decode cX8_bid 89 = .ok (.iload 4, 2) := by decide +kernel
theorem dX8_bid_91 : decode cX8_bid 91 = .ok (.goto 5, 3) := by decide +kernel
theorem dX8_bid_94 : decode cX8_bid 94 = .ok (.iload 5, 2) := by decide +kernel
theorem dX8_bid_96 : decode cX8_bid 96 = .ok (.ireturn, 1) := by decide +kernel
theorem lq_X8_rests_0 {w : Cond} (h : w ∈ (wsX8_rests_r1 : List Cond)) : w ∈ wsX8_rests := List.mem_cons_of_mem _ (List.mem_append_left _ (List.mem_append_left _ (h)))
theorem lq_X8_rests_1 {w : Cond} (h : w ∈ (wsX8_rests_r2 : List Cond)) : w ∈ wsX8_rests := List.mem_cons_of_mem _ (List.mem_append_left _ (List.mem_append_right _ (h)))
theorem lt_X8_rests_X8 : ∀ w ∈ wsX80, w ∈ wsX8_rests := fun _ h => List.mem_cons_of_mem _ (List.mem_append_right _ (h))
set_option maxRecDepth 20000 in
theorem ggX8_rests_X8_in : GoodIn wsX8_rests wsX8_in := goodIn_sub (List.forall_mem_cons.mpr ⟨lq_X8_rests_0 (List.mem_of_getElem? (i := 7) rfl), (show ∀ w ∈ ([] : List Cond), w ∈ wsX8_rests from fun _ h => absurd h List.not_mem_nil)⟩) (by decide +kernel)
set_option maxRecDepth 20000 in
theorem gX8_rests_X8_in : GoodIn wsX8_rests (va_wsS RX8 42 yX8_in wsX8_in) := goodIn_app (goodIn_sub (List.forall_mem_cons.mpr ⟨lq_X8_rests_0 (List.mem_of_getElem? (i := 4) rfl), List.forall_mem_cons.mpr ⟨lq_X8_rests_0 (List.mem_of_getElem? (i := 5) rfl), List.forall_mem_cons.mpr ⟨lq_X8_rests_0 (List.mem_of_getElem? (i := 6) rfl), fun _ h => absurd h List.not_mem_nil⟩⟩⟩) (by decide +kernel)) ggX8_rests_X8_in
set_option maxRecDepth 20000 in
theorem ggX8_rests_X8_hasBy : GoodIn wsX8_rests wsX8_hasBy := goodIn_sub (List.forall_mem_cons.mpr ⟨lq_X8_rests_0 (List.mem_of_getElem? (i := 11) rfl), (List.forall_mem_append.mpr ⟨(List.forall_mem_append.mpr ⟨(show ∀ w ∈ (wsX8_hasBy_r1 : List Cond), w ∈ wsX8_rests from List.forall_mem_cons.mpr ⟨lq_X8_rests_0 (List.mem_of_getElem? (i := 0) rfl), List.forall_mem_cons.mpr ⟨lq_X8_rests_0 (List.mem_of_getElem? (i := 12) rfl), List.forall_mem_cons.mpr ⟨lq_X8_rests_0 (List.mem_of_getElem? (i := 13) rfl), List.forall_mem_cons.mpr ⟨lq_X8_rests_0 (List.mem_of_getElem? (i := 14) rfl), List.forall_mem_cons.mpr ⟨lq_X8_rests_0 (List.mem_of_getElem? (i := 6) rfl), List.forall_mem_cons.mpr ⟨lq_X8_rests_0 (List.mem_of_getElem? (i := 15) rfl), List.forall_mem_cons.mpr ⟨lq_X8_rests_0 (List.mem_of_getElem? (i := 16) rfl), List.forall_mem_cons.mpr ⟨lq_X8_rests_0 (List.mem_of_getElem? (i := 17) rfl), List.forall_mem_cons.mpr ⟨lq_X8_rests_0 (List.mem_of_getElem? (i := 18) rfl), List.forall_mem_cons.mpr ⟨lq_X8_rests_0 (List.mem_of_getElem? (i := 19) rfl), List.forall_mem_cons.mpr ⟨lq_X8_rests_0 (List.mem_of_getElem? (i := 20) rfl), List.forall_mem_cons.mpr ⟨lq_X8_rests_0 (List.mem_of_getElem? (i := 21) rfl), List.forall_mem_cons.mpr ⟨lq_X8_rests_0 (List.mem_of_getElem? (i := 22) rfl), List.forall_mem_cons.mpr ⟨lq_X8_rests_0 (List.mem_of_getElem? (i := 23) rfl), List.forall_mem_cons.mpr ⟨lq_X8_rests_1 (List.mem_of_getElem? (i := 0) rfl), List.forall_mem_cons.mpr ⟨lq_X8_rests_1 (List.mem_of_getElem? (i := 1) rfl), List.forall_mem_cons.mpr ⟨lq_X8_rests_1 (List.mem_of_getElem? (i := 2) rfl), List.forall_mem_cons.mpr ⟨lq_X8_rests_1 (List.mem_of_getElem? (i := 3) rfl), List.forall_mem_cons.mpr ⟨lq_X8_rests_1 (List.mem_of_getElem? (i := 4) rfl), List.forall_mem_cons.mpr ⟨lq_X8_rests_1 (List.mem_of_getElem? (i := 5) rfl), List.forall_mem_cons.mpr ⟨lq_X8_rests_1 (List.mem_of_getElem? (i := 6) rfl), List.forall_mem_cons.mpr ⟨lq_X8_rests_1 (List.mem_of_getElem? (i := 7) rfl), List.forall_mem_cons.mpr ⟨lq_X8_rests_1 (List.mem_of_getElem? (i := 8) rfl), List.forall_mem_cons.mpr ⟨lq_X8_rests_1 (List.mem_of_getElem? (i := 9) rfl), fun _ h => absurd h List.not_mem_nil⟩⟩⟩⟩⟩⟩⟩⟩⟩⟩⟩⟩⟩⟩⟩⟩⟩⟩⟩⟩⟩⟩⟩⟩), (show ∀ w ∈ (wsX8_hasBy_r2 : List Cond), w ∈ wsX8_rests from List.forall_mem_cons.mpr ⟨lq_X8_rests_1 (List.mem_of_getElem? (i := 10) rfl), List.forall_mem_cons.mpr ⟨lq_X8_rests_1 (List.mem_of_getElem? (i := 11) rfl), List.forall_mem_cons.mpr ⟨lq_X8_rests_1 (List.mem_of_getElem? (i := 12) rfl), List.forall_mem_cons.mpr ⟨lq_X8_rests_1 (List.mem_of_getElem? (i := 13) rfl), List.forall_mem_cons.mpr ⟨lq_X8_rests_1 (List.mem_of_getElem? (i := 14) rfl), List.forall_mem_cons.mpr ⟨lq_X8_rests_1 (List.mem_of_getElem? (i := 15) rfl), List.forall_mem_cons.mpr ⟨lq_X8_rests_1 (List.mem_of_getElem? (i := 16) rfl), List.forall_mem_cons.mpr ⟨lq_X8_rests_1 (List.mem_of_getElem? (i := 17) rfl), List.forall_mem_cons.mpr ⟨lq_X8_rests_1 (List.mem_of_getElem? (i := 18) rfl), fun _ h => absurd h List.not_mem_nil⟩⟩⟩⟩⟩⟩⟩⟩⟩)⟩), lt_X8_rests_X8⟩)⟩) (by decide +kernel)
set_option maxRecDepth 20000 in
theorem gX8_rests_X8_hasBy : GoodIn wsX8_rests (wsV RX8 179 RX8 yX8_hasBy wsX8_hasBy) := goodIn_app (goodIn_sub (List.forall_mem_cons.mpr ⟨lq_X8_rests_0 (List.mem_of_getElem? (i := 8) rfl), List.forall_mem_cons.mpr ⟨lq_X8_rests_0 (List.mem_of_getElem? (i := 9) rfl), List.forall_mem_cons.mpr ⟨lq_X8_rests_0 (List.mem_of_getElem? (i := 10) rfl), List.forall_mem_cons.mpr ⟨lq_X8_rests_0 (List.mem_of_getElem? (i := 6) rfl), fun _ h => absurd h List.not_mem_nil⟩⟩⟩⟩) (by decide +kernel)) ggX8_rests_X8_hasBy
theorem dX8_rests_0 : decode cX8_rests 0 = .ok (.aload_n 0, 1) := by decide +kernel
theorem dX8_rests_1 : decode cX8_rests 1 = .ok (.getfield 7, 3) := by decide +kernel
theorem dX8_rests_4 : decode cX8_rests 4 = .ok (.iconst 1, 1) := by decide +kernel
theorem dX8_rests_5 : decode cX8_rests 5 = .ok (.iaload, 1) := by decide +kernel
theorem dX8_rests_6 : decode cX8_rests 6 = .ok (.ifCond .ne 6, 3) := by decide +kernel
theorem dX8_rests_9 : decode cX8_rests 9 = .ok (.ldc 121, 2) := by decide +kernel
theorem dX8_rests_11 : decode cX8_rests 11 = .ok (.ireturn, 1) := by decide +kernel
theorem dX8_rests_12 : decode cX8_rests 12 = .ok (.iload_n 1, 1) := by decide +kernel
theorem dX8_rests_13 : decode cX8_rests 13 = .ok (.i2l, 1) := by decide +kernel
theorem dX8_rests_14 : decode cX8_rests 14 = .ok (.lconst 1, 1) := by decide +kernel
theorem dX8_rests_15 : decode cX8_rests 15 = .ok (.ldc2_w 177, 3) := by decide +kernel
theorem dX8_rests_18 : decode cX8_rests 18 = .ok (.invokestatic 42, 3) := by decide +kernel
theorem dX8_rests_21 : decode cX8_rests 21 = .ok (.ifCond .ne 6, 3) := by decide +kernel
theorem dX8_rests_24 : decode cX8_rests 24 = .ok (.ldc 48, 2) := by decide +kernel
theorem dX8_rests_26 : decode cX8_rests 26 = .ok (.ireturn, 1) := by decide +kernel
theorem dX8_rests_27 : decode cX8_rests 27 = .ok (.iconst 0, 1) := by decide +kernel
theorem dX8_rests_28 : decode cX8_rests 28 = .ok (.istore_n 2, 1) := by decide +kernel
theorem dX8_rests_29 : decode cX8_rests 29 = .ok (.iconst 0, 1) := by decide +kernel
theorem dX8_rests_30 : decode cX8_rests 30 = .ok (.istore_n 3, 1) := by decide +kernel
theorem dX8_rests_31 : decode cX8_rests 31 = .ok (.iload_n 3, 1) := by decide +kernel
theorem dX8_rests_32 : decode cX8_rests 32 = .ok (.aload_n 0, 1) := by decide +kernel
theorem dX8_rests_33 : decode cX8_rests 33 = .ok (.getfield 7, 3) := by decide +kernel
theorem dX8_rests_36 : decode cX8_rests 36 = .ok (.iconst 1, 1) := by decide +kernel
theorem dX8_rests_37 : decode cX8_rests 37 = .ok (.iaload, 1) := by decide +kernel
theorem dX8_rests_38 : decode cX8_rests 38 = .ok (.if_icmp .ge 65, 3) := by decide +kernel
theorem dX8_rests_41 : decode cX8_rests 41 = .ok (.aload_n 0, 1) := by decide +kernel
theorem dX8_rests_42 : decode cX8_rests 42 = .ok (.iload_n 3, 1) := by decide +kernel
theorem dX8_rests_43 : decode cX8_rests 43 = .ok (.aload_n 0, 1) := by decide +kernel
theorem dX8_rests_44 : decode cX8_rests 44 = .ok (.getfield 7, 3) := by decide +kernel
theorem dX8_rests_47 : decode cX8_rests 47 = .ok (.bipush 23, 2) := by decide +kernel
theorem dX8_rests_49 : decode cX8_rests 49 = .ok (.iload_n 3, 1) := by decide +kernel
theorem dX8_rests_50 : decode cX8_rests 50 = .ok (.iadd, 1) := by decide +kernel
theorem dX8_rests_51 : decode cX8_rests 51 = .ok (.iaload, 1) := by decide +kernel
theorem dX8_rests_52 : decode cX8_rests 52 = .ok (.iload_n 1, 1) := by decide +kernel
theorem dX8_rests_53 : decode cX8_rests 53 = .ok (.invokevirtual 179, 3) := by decide +kernel
theorem dX8_rests_56 : decode cX8_rests 56 = .ok (.istore 4, 2) := by decide +kernel
theorem dX8_rests_58 : decode cX8_rests 58 = .ok (.iconst 0, 1) := by decide +kernel
theorem dX8_rests_59 : decode cX8_rests 59 = .ok (.istore 5, 2) := by decide +kernel
theorem dX8_rests_61 : decode cX8_rests 61 = .ok (.iload 5, 2) := by decide +kernel
theorem dX8_rests_63 : decode cX8_rests 63 = .ok (.bipush 21, 2) := by decide +kernel
theorem dX8_rests_65 : decode cX8_rests 65 = .ok (.if_icmp .ge 32, 3) := by decide +kernel
theorem dX8_rests_68 : decode cX8_rests 68 = .ok (.iload_n 2, 1) := by decide +kernel
theorem dX8_rests_69 : decode cX8_rests 69 = .ok (.aload_n 0, 1) := by decide +kernel
theorem dX8_rests_70 : decode cX8_rests 70 = .ok (.iload_n 3, 1) := by decide +kernel
theorem dX8_rests_71 : decode cX8_rests 71 = .ok (.iload 5, 2) := by decide +kernel
theorem dX8_rests_73 : decode cX8_rests 73 = .ok (.iload_n 1, 1) := by decide +kernel
theorem dX8_rests_74 : decode cX8_rests 74 = .ok (.invokevirtual 179, 3) := by decide +kernel
theorem dX8_rests_77 : decode cX8_rests 77 = .ok (.iload 4, 2) := by decide +kernel
theorem dX8_rests_79 : decode cX8_rests 79 = .ok (.if_icmp .le 9, 3) := by decide +kernel
theorem dX8_rests_82 : decode cX8_rests 82 = .ok (.iconst 1, 1) := by decide +kernel
theorem dX8_rests_83 : decode cX8_rests 83 = .ok (.iload_n 3, 1) := by decide +kernel
theorem dX8_rests_84 : decode cX8_rests 84 = .ok (.ishl, 1) := by decide +kernel
theorem dX8_rests_85 : decode cX8_rests 85 = .ok (.goto 4, 3) := by decide +kernel
theorem dX8_rests_88 : decode cX8_rests 88 = .ok (.iconst 0, 1) := by decide +kernel
theorem dX8_rests_89 : decode cX8_rests 89 = .ok (.ior, 1) := by decide +kernel
theorem dX8_rests_90 : decode cX8_rests 90 = .ok (.istore_n 2, 1) := by decide +kernel
theorem dX8_rests_91 : decode cX8_rests 91 = .ok (.iinc 5 1, 3) := by decide +kernel
theorem dX8_rests_94 : decode cX8_rests 94 = .ok (.goto (-33), 3) := by decide +kernel
theorem dX8_rests_97 : decode cX8_rests 97 = .ok (.iinc 3 1, 3) := by decide +kernel
theorem dX8_rests_100 : decode cX8_rests 100 = .ok (.goto (-69), 3) := by decide +kernel
theorem dX8_rests_103 : decode cX8_rests 103 = .ok (.iload_n 2, 1) := by decide +kernel
theorem dX8_rests_104 : decode cX8_rests 104 = .ok (.ireturn, 1) := by decide +kernel
theorem dX8_why_0 : decode cX8_why 0 = .ok (.aload_n 0, 1) := by decide +kernel
theorem dX8_why_1 : decode cX8_why 1 = .ok (.getfield 13, 3) := by decide +kernel
theorem dX8_why_4 : decode cX8_why 4 = .ok (.iload_n 1, 1) := by decide +kernel
theorem dX8_why_5 : decode cX8_why 5 = .ok (.iaload, 1) := by decide +kernel
theorem dX8_why_6 : decode cX8_why 6 = .ok (.ifCond .ge 7, 3) := by decide +kernel
theorem dX8_why_9 : decode cX8_why 9 = .ok (.iconst 1, 1) := by decide +kernel
theorem dX8_why_10 : decode cX8_why 10 = .ok (.goto 28, 3) := by decide +kernel
theorem dX8_why_13 : decode cX8_why 13 = .ok (.iload_n 2, 1) := by decide +kernel
theorem dX8_why_14 : decode cX8_why 14 = .ok (.ifCond .lt 19, 3) := by decide +kernel
theorem dX8_why_17 : decode cX8_why 17 = .ok (.iload_n 2, 1) := by decide +kernel
theorem dX8_why_18 : decode cX8_why 18 = .ok (.i2l, 1) := by decide +kernel
theorem dX8_why_19 : decode cX8_why 19 = .ok (.iload_n 3, 1) := by decide +kernel
theorem dX8_why_20 : decode cX8_why 20 = .ok (.i2l, 1) := by decide +kernel
theorem dX8_why_21 : decode cX8_why 21 = .ok (.ladd, 1) := by decide +kernel
theorem dX8_why_22 : decode cX8_why 22 = .ok (.aload_n 0, 1) := by decide +kernel
theorem dX8_why_23 : decode cX8_why 23 = .ok (.getfield 13, 3) := by decide +kernel
theorem dX8_why_26 : decode cX8_why 26 = .ok (.iload_n 1, 1) := by decide +kernel
theorem dX8_why_27 : decode cX8_why 27 = .ok (.iaload, 1) := by decide +kernel
theorem dX8_why_28 : decode cX8_why 28 = .ok (.i2l, 1) := by decide +kernel
theorem dX8_why_29 : decode cX8_why 29 = .ok (.lcmp, 1) := by decide +kernel
theorem dX8_why_30 : decode cX8_why 30 = .ok (.ifCond .le 7, 3) := by decide +kernel
theorem dX8_why_33 : decode cX8_why 33 = .ok (.iconst 2, 1) := by decide +kernel
theorem dX8_why_34 : decode cX8_why 34 = .ok (.goto 4, 3) := by decide +kernel
theorem dX8_why_37 : decode cX8_why 37 = .ok (.iconst 0, 1) := by decide +kernel
theorem dX8_why_38 : decode cX8_why 38 = .ok (.ireturn, 1) := by decide +kernel
theorem lq_X8_fits_0 {w : Cond} (h : w ∈ (wsX8_fits_r1 : List Cond)) : w ∈ wsX8_fits := List.mem_cons_of_mem _ (List.mem_append_left _ (List.mem_append_left _ (h)))
theorem lq_X8_fits_1 {w : Cond} (h : w ∈ (wsX8_fits_r2 : List Cond)) : w ∈ wsX8_fits := List.mem_cons_of_mem _ (List.mem_append_left _ (List.mem_append_right _ (List.mem_append_left _ (h))))
theorem lq_X8_fits_2 {w : Cond} (h : w ∈ (wsX8_fits_r3 : List Cond)) : w ∈ wsX8_fits := List.mem_cons_of_mem _ (List.mem_append_left _ (List.mem_append_right _ (List.mem_append_right _ (h))))
theorem lt_X8_fits_X8 : ∀ w ∈ wsX80, w ∈ wsX8_fits := fun _ h => List.mem_cons_of_mem _ (List.mem_append_right _ (h))
set_option maxRecDepth 20000 in
theorem ggX8_fits_X8_isWalkerThere : GoodIn wsX8_fits wsX8_isWalkerThere := goodIn_sub (List.forall_mem_cons.mpr ⟨lq_X8_fits_0 (List.mem_of_getElem? (i := 9) rfl), (List.forall_mem_append.mpr ⟨(show ∀ w ∈ ([.fieldLink RX8 7 "WinterWalkModel" "slot" "[I", .methodLink RX8 42 yX8_in, .static yX8_in, .initialized RX8, .code yX8_in cX8_in 6 (some .boolean)] : List Cond), w ∈ wsX8_fits from List.forall_mem_cons.mpr ⟨lq_X8_fits_0 (List.mem_of_getElem? (i := 3) rfl), List.forall_mem_cons.mpr ⟨lq_X8_fits_0 (List.mem_of_getElem? (i := 10) rfl), List.forall_mem_cons.mpr ⟨lq_X8_fits_0 (List.mem_of_getElem? (i := 11) rfl), List.forall_mem_cons.mpr ⟨lq_X8_fits_0 (List.mem_of_getElem? (i := 8) rfl), List.forall_mem_cons.mpr ⟨lq_X8_fits_0 (List.mem_of_getElem? (i := 12) rfl), fun _ h => absurd h List.not_mem_nil⟩⟩⟩⟩⟩), lt_X8_fits_X8⟩)⟩) (by decide +kernel)
set_option maxRecDepth 20000 in
theorem gX8_fits_X8_isWalkerThere : GoodIn wsX8_fits (wsV RX8 157 RX8 yX8_isWalkerThere wsX8_isWalkerThere) := goodIn_app (goodIn_sub (List.forall_mem_cons.mpr ⟨lq_X8_fits_0 (List.mem_of_getElem? (i := 5) rfl), List.forall_mem_cons.mpr ⟨lq_X8_fits_0 (List.mem_of_getElem? (i := 6) rfl), List.forall_mem_cons.mpr ⟨lq_X8_fits_0 (List.mem_of_getElem? (i := 7) rfl), List.forall_mem_cons.mpr ⟨lq_X8_fits_0 (List.mem_of_getElem? (i := 8) rfl), fun _ h => absurd h List.not_mem_nil⟩⟩⟩⟩) (by decide +kernel)) ggX8_fits_X8_isWalkerThere
set_option maxRecDepth 20000 in
theorem ggX8_fits_X8_in : GoodIn wsX8_fits wsX8_in := goodIn_sub (List.forall_mem_cons.mpr ⟨lq_X8_fits_0 (List.mem_of_getElem? (i := 12) rfl), (show ∀ w ∈ ([] : List Cond), w ∈ wsX8_fits from fun _ h => absurd h List.not_mem_nil)⟩) (by decide +kernel)
set_option maxRecDepth 20000 in
theorem gX8_fits_X8_in : GoodIn wsX8_fits (va_wsS RX8 42 yX8_in wsX8_in) := goodIn_app (goodIn_sub (List.forall_mem_cons.mpr ⟨lq_X8_fits_0 (List.mem_of_getElem? (i := 10) rfl), List.forall_mem_cons.mpr ⟨lq_X8_fits_0 (List.mem_of_getElem? (i := 11) rfl), List.forall_mem_cons.mpr ⟨lq_X8_fits_0 (List.mem_of_getElem? (i := 8) rfl), fun _ h => absurd h List.not_mem_nil⟩⟩⟩) (by decide +kernel)) ggX8_fits_X8_in
set_option maxRecDepth 20000 in
theorem ggX8_fits_X8_why : GoodIn wsX8_fits wsX8_why := goodIn_sub (List.forall_mem_cons.mpr ⟨lq_X8_fits_0 (List.mem_of_getElem? (i := 16) rfl), (List.forall_mem_append.mpr ⟨(show ∀ w ∈ ([.fieldLink RX8 13 "WinterWalkModel" "size" "[I"] : List Cond), w ∈ wsX8_fits from List.forall_mem_cons.mpr ⟨lq_X8_fits_0 (List.mem_of_getElem? (i := 17) rfl), fun _ h => absurd h List.not_mem_nil⟩), lt_X8_fits_X8⟩)⟩) (by decide +kernel)
set_option maxRecDepth 20000 in
theorem gX8_fits_X8_why : GoodIn wsX8_fits (wsV RX8 182 RX8 yX8_why wsX8_why) := goodIn_app (goodIn_sub (List.forall_mem_cons.mpr ⟨lq_X8_fits_0 (List.mem_of_getElem? (i := 13) rfl), List.forall_mem_cons.mpr ⟨lq_X8_fits_0 (List.mem_of_getElem? (i := 14) rfl), List.forall_mem_cons.mpr ⟨lq_X8_fits_0 (List.mem_of_getElem? (i := 15) rfl), List.forall_mem_cons.mpr ⟨lq_X8_fits_0 (List.mem_of_getElem? (i := 8) rfl), fun _ h => absurd h List.not_mem_nil⟩⟩⟩⟩) (by decide +kernel)) ggX8_fits_X8_why
set_option maxRecDepth 20000 in
theorem ggX8_fits_X8_finds : GoodIn wsX8_fits wsX8_finds := goodIn_sub (List.forall_mem_cons.mpr ⟨lq_X8_fits_0 (List.mem_of_getElem? (i := 21) rfl), (List.forall_mem_append.mpr ⟨(show ∀ w ∈ ([.fieldLink RX8 35 "WinterWalkModel" "status" "I", .constant RX8 39 (-1000010)] : List Cond), w ∈ wsX8_fits from List.forall_mem_cons.mpr ⟨lq_X8_fits_0 (List.mem_of_getElem? (i := 22) rfl), List.forall_mem_cons.mpr ⟨lq_X8_fits_0 (List.mem_of_getElem? (i := 23) rfl), fun _ h => absurd h List.not_mem_nil⟩⟩), lt_X8_fits_X8⟩)⟩) (by decide +kernel)
set_option maxRecDepth 20000 in
theorem gX8_fits_X8_finds : GoodIn wsX8_fits (wsV RX8 49 RX8 yX8_finds wsX8_finds) := goodIn_app (goodIn_sub (List.forall_mem_cons.mpr ⟨lq_X8_fits_0 (List.mem_of_getElem? (i := 18) rfl), List.forall_mem_cons.mpr ⟨lq_X8_fits_0 (List.mem_of_getElem? (i := 19) rfl), List.forall_mem_cons.mpr ⟨lq_X8_fits_0 (List.mem_of_getElem? (i := 20) rfl), List.forall_mem_cons.mpr ⟨lq_X8_fits_0 (List.mem_of_getElem? (i := 8) rfl), fun _ h => absurd h List.not_mem_nil⟩⟩⟩⟩) (by decide +kernel)) ggX8_fits_X8_finds
set_option maxRecDepth 20000 in
theorem ggX8_fits_X8_copies : GoodIn wsX8_fits wsX8_copies := goodIn_sub (List.forall_mem_cons.mpr ⟨lq_X8_fits_1 (List.mem_of_getElem? (i := 3) rfl), (List.forall_mem_append.mpr ⟨(show ∀ w ∈ ([.fieldLink RX8 7 "WinterWalkModel" "slot" "[I"] : List Cond), w ∈ wsX8_fits from List.forall_mem_cons.mpr ⟨lq_X8_fits_0 (List.mem_of_getElem? (i := 3) rfl), fun _ h => absurd h List.not_mem_nil⟩), lt_X8_fits_X8⟩)⟩) (by decide +kernel)
set_option maxRecDepth 20000 in
theorem gX8_fits_X8_copies : GoodIn wsX8_fits (wsV RX8 114 RX8 yX8_copies wsX8_copies) := goodIn_app (goodIn_sub (List.forall_mem_cons.mpr ⟨lq_X8_fits_1 (List.mem_of_getElem? (i := 0) rfl), List.forall_mem_cons.mpr ⟨lq_X8_fits_1 (List.mem_of_getElem? (i := 1) rfl), List.forall_mem_cons.mpr ⟨lq_X8_fits_1 (List.mem_of_getElem? (i := 2) rfl), List.forall_mem_cons.mpr ⟨lq_X8_fits_0 (List.mem_of_getElem? (i := 8) rfl), fun _ h => absurd h List.not_mem_nil⟩⟩⟩⟩) (by decide +kernel)) ggX8_fits_X8_copies
set_option maxRecDepth 20000 in
theorem ggX8_fits_X8_day : GoodIn wsX8_fits wsX8_day := goodIn_sub (List.forall_mem_cons.mpr ⟨lq_X8_fits_1 (List.mem_of_getElem? (i := 7) rfl), (List.forall_mem_append.mpr ⟨(List.forall_mem_append.mpr ⟨(show ∀ w ∈ (wsX8_day_r1 : List Cond), w ∈ wsX8_fits from List.forall_mem_cons.mpr ⟨lq_X8_fits_0 (List.mem_of_getElem? (i := 3) rfl), List.forall_mem_cons.mpr ⟨lq_X8_fits_1 (List.mem_of_getElem? (i := 8) rfl), List.forall_mem_cons.mpr ⟨lq_X8_fits_1 (List.mem_of_getElem? (i := 9) rfl), List.forall_mem_cons.mpr ⟨lq_X8_fits_1 (List.mem_of_getElem? (i := 10) rfl), List.forall_mem_cons.mpr ⟨lq_X8_fits_0 (List.mem_of_getElem? (i := 8) rfl), List.forall_mem_cons.mpr ⟨lq_X8_fits_1 (List.mem_of_getElem? (i := 11) rfl), List.forall_mem_cons.mpr ⟨lq_X8_fits_1 (List.mem_of_getElem? (i := 12) rfl), List.forall_mem_cons.mpr ⟨lq_X8_fits_1 (List.mem_of_getElem? (i := 13) rfl), List.forall_mem_cons.mpr ⟨lq_X8_fits_1 (List.mem_of_getElem? (i := 14) rfl), List.forall_mem_cons.mpr ⟨lq_X8_fits_1 (List.mem_of_getElem? (i := 15) rfl), List.forall_mem_cons.mpr ⟨lq_X8_fits_1 (List.mem_of_getElem? (i := 16) rfl), List.forall_mem_cons.mpr ⟨lq_X8_fits_1 (List.mem_of_getElem? (i := 17) rfl), List.forall_mem_cons.mpr ⟨lq_X8_fits_1 (List.mem_of_getElem? (i := 18) rfl), List.forall_mem_cons.mpr ⟨lq_X8_fits_1 (List.mem_of_getElem? (i := 19) rfl), List.forall_mem_cons.mpr ⟨lq_X8_fits_1 (List.mem_of_getElem? (i := 20) rfl), List.forall_mem_cons.mpr ⟨lq_X8_fits_1 (List.mem_of_getElem? (i := 21) rfl), List.forall_mem_cons.mpr ⟨lq_X8_fits_1 (List.mem_of_getElem? (i := 22) rfl), List.forall_mem_cons.mpr ⟨lq_X8_fits_1 (List.mem_of_getElem? (i := 23) rfl), List.forall_mem_cons.mpr ⟨lq_X8_fits_2 (List.mem_of_getElem? (i := 0) rfl), List.forall_mem_cons.mpr ⟨lq_X8_fits_2 (List.mem_of_getElem? (i := 1) rfl), List.forall_mem_cons.mpr ⟨lq_X8_fits_2 (List.mem_of_getElem? (i := 2) rfl), List.forall_mem_cons.mpr ⟨lq_X8_fits_2 (List.mem_of_getElem? (i := 3) rfl), List.forall_mem_cons.mpr ⟨lq_X8_fits_2 (List.mem_of_getElem? (i := 4) rfl), List.forall_mem_cons.mpr ⟨lq_X8_fits_2 (List.mem_of_getElem? (i := 5) rfl), fun _ h => absurd h List.not_mem_nil⟩⟩⟩⟩⟩⟩⟩⟩⟩⟩⟩⟩⟩⟩⟩⟩⟩⟩⟩⟩⟩⟩⟩⟩), (show ∀ w ∈ (wsX8_day_r2 : List Cond), w ∈ wsX8_fits from List.forall_mem_cons.mpr ⟨lq_X8_fits_2 (List.mem_of_getElem? (i := 6) rfl), fun _ h => absurd h List.not_mem_nil⟩)⟩), lt_X8_fits_X8⟩)⟩) (by decide +kernel)
set_option maxRecDepth 20000 in
theorem gX8_fits_X8_day : GoodIn wsX8_fits (wsV RX8 139 RX8 yX8_day wsX8_day) := goodIn_app (goodIn_sub (List.forall_mem_cons.mpr ⟨lq_X8_fits_1 (List.mem_of_getElem? (i := 4) rfl), List.forall_mem_cons.mpr ⟨lq_X8_fits_1 (List.mem_of_getElem? (i := 5) rfl), List.forall_mem_cons.mpr ⟨lq_X8_fits_1 (List.mem_of_getElem? (i := 6) rfl), List.forall_mem_cons.mpr ⟨lq_X8_fits_0 (List.mem_of_getElem? (i := 8) rfl), fun _ h => absurd h List.not_mem_nil⟩⟩⟩⟩) (by decide +kernel)) ggX8_fits_X8_day
set_option maxRecDepth 20000 in
theorem ggX8_fits_X8_told : GoodIn wsX8_fits wsX8_told := goodIn_sub (List.forall_mem_cons.mpr ⟨lq_X8_fits_2 (List.mem_of_getElem? (i := 10) rfl), (List.forall_mem_append.mpr ⟨(show ∀ w ∈ ([.fieldLink RX8 35 "WinterWalkModel" "status" "I"] : List Cond), w ∈ wsX8_fits from List.forall_mem_cons.mpr ⟨lq_X8_fits_0 (List.mem_of_getElem? (i := 22) rfl), fun _ h => absurd h List.not_mem_nil⟩), lt_X8_fits_X8⟩)⟩) (by decide +kernel)
set_option maxRecDepth 20000 in
theorem gX8_fits_X8_told : GoodIn wsX8_fits (wsV RX8 53 RX8 yX8_told wsX8_told) := goodIn_app (goodIn_sub (List.forall_mem_cons.mpr ⟨lq_X8_fits_2 (List.mem_of_getElem? (i := 7) rfl), List.forall_mem_cons.mpr ⟨lq_X8_fits_2 (List.mem_of_getElem? (i := 8) rfl), List.forall_mem_cons.mpr ⟨lq_X8_fits_2 (List.mem_of_getElem? (i := 9) rfl), List.forall_mem_cons.mpr ⟨lq_X8_fits_0 (List.mem_of_getElem? (i := 8) rfl), fun _ h => absurd h List.not_mem_nil⟩⟩⟩⟩) (by decide +kernel)) ggX8_fits_X8_told
theorem dX8_fits_0 : decode cX8_fits 0 = .ok (.aload_n 0, 1) := by decide +kernel
theorem dX8_fits_1 : decode cX8_fits 1 = .ok (.iload_n 1, 1) := by decide +kernel
theorem dX8_fits_2 : decode cX8_fits 2 = .ok (.invokevirtual 157, 3) := by decide +kernel
theorem dX8_fits_5 : decode cX8_fits 5 = .ok (.ifCond .eq 28, 3) := by decide +kernel
theorem dX8_fits_8 : decode cX8_fits 8 = .ok (.iload_n 2, 1) := by decide +kernel
theorem dX8_fits_9 : decode cX8_fits 9 = .ok (.i2l, 1) := by decide +kernel
theorem dX8_fits_10 : decode cX8_fits 10 = .ok (.lconst 0, 1) := by decide +kernel
theorem dX8_fits_11 : decode cX8_fits 11 = .ok (.ldc2_w 40, 3) := by decide +kernel
theorem dX8_fits_14 : decode cX8_fits 14 = .ok (.invokestatic 42, 3) := by decide +kernel
theorem dX8_fits_17 : decode cX8_fits 17 = .ok (.ifCond .eq 16, 3) := by decide +kernel
theorem dX8_fits_20 : decode cX8_fits 20 = .ok (.iload 4, 2) := by decide +kernel
theorem dX8_fits_22 : decode cX8_fits 22 = .ok (.i2l, 1) := by decide +kernel
theorem dX8_fits_23 : decode cX8_fits 23 = .ok (.lconst 1, 1) := by decide +kernel
theorem dX8_fits_24 : decode cX8_fits 24 = .ok (.ldc2_w 142, 3) := by decide +kernel
theorem dX8_fits_27 : decode cX8_fits 27 = .ok (.invokestatic 42, 3) := by decide +kernel
theorem dX8_fits_30 : decode cX8_fits 30 = .ok (.ifCond .ne 6, 3) := by decide +kernel
theorem dX8_fits_33 : decode cX8_fits 33 = .ok (.ldc 48, 2) := by decide +kernel
theorem dX8_fits_35 : decode cX8_fits 35 = .ok (.ireturn, 1) := by decide +kernel
theorem dX8_fits_36 : decode cX8_fits 36 = .ok (.aload_n 0, 1) := by decide +kernel
theorem dX8_fits_37 : decode cX8_fits 37 = .ok (.iload_n 2, 1) := by decide +kernel
theorem dX8_fits_38 : decode cX8_fits 38 = .ok (.iload_n 3, 1) := by decide +kernel
theorem dX8_fits_39 : decode cX8_fits 39 = .ok (.iload 4, 2) := by decide +kernel
theorem dX8_fits_41 : decode cX8_fits 41 = .ok (.invokevirtual 182, 3) := by decide +kernel
theorem dX8_fits_44 : decode cX8_fits 44 = .ok (.istore 5, 2) := by decide +kernel
theorem dX8_fits_46 : decode cX8_fits 46 = .ok (.iload 5, 2) := by decide +kernel
theorem dX8_fits_48 : decode cX8_fits 48 = .ok (.ifCond .le 10, 3) := by decide +kernel
theorem dX8_fits_51 : decode cX8_fits 51 = .ok (.aload_n 0, 1) := by decide +kernel
theorem dX8_fits_52 : decode cX8_fits 52 = .ok (.iload 5, 2) := by decide +kernel
theorem dX8_fits_54 : decode cX8_fits 54 = .ok (.invokevirtual 49, 3) := by decide +kernel
theorem dX8_fits_57 : decode cX8_fits 57 = .ok (.ireturn, 1) := by decide +kernel
theorem dX8_fits_58 : decode cX8_fits 58 = .ok (.iconst 0, 1) := by decide +kernel
theorem dX8_fits_59 : decode cX8_fits 59 = .ok (.istore 6, 2) := by decide +kernel
theorem dX8_fits_61 : decode cX8_fits 61 = .ok (.iconst 1, 1) := by decide +kernel
theorem dX8_fits_62 : decode cX8_fits 62 = .ok (.istore 7, 2) := by decide +kernel
theorem dX8_fits_64 : decode cX8_fits 64 = .ok (.iload 7, 2) := by decide +kernel
theorem dX8_fits_66 : decode cX8_fits 66 = .ok (.bipush 6, 2) := by decide +kernel
theorem dX8_fits_68 : decode cX8_fits 68 = .ok (.if_icmp .ge 111, 3) := by decide +kernel
theorem dX8_fits_71 : decode cX8_fits 71 = .ok (.aload_n 0, 1) := by decide +kernel
theorem dX8_fits_72 : decode cX8_fits 72 = .ok (.iconst 0, 1) := by decide +kernel
theorem dX8_fits_73 : decode cX8_fits 73 = .ok (.bipush 27, 2) := by decide +kernel
theorem dX8_fits_75 : decode cX8_fits 75 = .ok (.invokevirtual 114, 3) := by decide +kernel
theorem dX8_fits_78 : decode cX8_fits 78 = .ok (.aload_n 0, 1) := by decide +kernel
theorem dX8_fits_79 : decode cX8_fits 79 = .ok (.getfield 7, 3) := by decide +kernel
theorem dX8_fits_82 : decode cX8_fits 82 = .ok (.sipush 1559, 3) := by decide +kernel
theorem dX8_fits_85 : decode cX8_fits 85 = .ok (.iload_n 1, 1) := by decide +kernel
theorem dX8_fits_86 : decode cX8_fits 86 = .ok (.iadd, 1) := by decide +kernel
theorem dX8_fits_87 : decode cX8_fits 87 = .ok (.iload 7, 2) := by decide +kernel
theorem dX8_fits_89 : decode cX8_fits 89 = .ok (.iastore, 1) := by decide +kernel
theorem dX8_fits_90 : decode cX8_fits 90 = .ok (.iconst 1, 1) := by decide +kernel
theorem dX8_fits_91 : decode cX8_fits 91 = .ok (.istore 8, 2) := by decide +kernel
theorem dX8_fits_93 : decode cX8_fits 93 = .ok (.iconst 0, 1) := by decide +kernel
theorem dX8_fits_94 : decode cX8_fits 94 = .ok (.istore 9, 2) := by decide +kernel
theorem dX8_fits_96 : decode cX8_fits 96 = .ok (.iload 9, 2) := by decide +kernel
theorem dX8_fits_98 : decode cX8_fits 98 = .ok (.iload 4, 2) := by decide +kernel
theorem dX8_fits_100 : decode cX8_fits 100 = .ok (.if_icmp .ge 55, 3) := by decide +kernel
theorem dX8_fits_103 : decode cX8_fits 103 = .ok (.aload_n 0, 1) := by decide +kernel
theorem dX8_fits_104 : decode cX8_fits 104 = .ok (.bipush 27, 2) := by decide +kernel
theorem dX8_fits_106 : decode cX8_fits 106 = .ok (.iconst (-1), 1) := by decide +kernel
theorem dX8_fits_107 : decode cX8_fits 107 = .ok (.invokevirtual 139, 3) := by decide +kernel
theorem dX8_fits_110 : decode cX8_fits 110 = .ok (.iload 8, 2) := by decide +kernel
theorem dX8_fits_112 : decode cX8_fits 112 = .ok (.ifCond .eq 34, 3) := by decide +kernel
theorem dX8_fits_115 : decode cX8_fits 115 = .ok (.aload_n 0, 1) := by decide +kernel
theorem dX8_fits_116 : decode cX8_fits 116 = .ok (.getfield 7, 3) := by decide +kernel
theorem dX8_fits_119 : decode cX8_fits 119 = .ok (.sipush 1587, 3) := by decide +kernel
theorem dX8_fits_122 : decode cX8_fits 122 = .ok (.iload_n 1, 1) := by decide +kernel
theorem dX8_fits_123 : decode cX8_fits 123 = .ok (.iadd, 1) := by decide +kernel
theorem dX8_fits_124 : decode cX8_fits 124 = .ok (.iaload, 1) := by decide +kernel
theorem dX8_fits_125 : decode cX8_fits 125 = .ok (.aload_n 0, 1) := by decide +kernel
theorem dX8_fits_126 : decode cX8_fits 126 = .ok (.getfield 19, 3) := by decide +kernel
theorem dX8_fits_129 : decode cX8_fits 129 = .ok (.bipush 40, 2) := by decide +kernel
theorem dX8_fits_131 : decode cX8_fits 131 = .ok (.iload_n 2, 1) := by decide +kernel
theorem dX8_fits_132 : decode cX8_fits 132 = .ok (.imul, 1) := by decide +kernel
theorem dX8_fits_133 : decode cX8_fits 133 = .ok (.iload_n 3, 1) := by decide +kernel
theorem dX8_fits_134 : decode cX8_fits 134 = .ok (.iadd, 1) := by decide +kernel
theorem dX8_fits_135 : decode cX8_fits 135 = .ok (.iload 9, 2) := by decide +kernel
theorem dX8_fits_137 : decode cX8_fits 137 = .ok (.iadd, 1) := by decide +kernel
theorem dX8_fits_138 : decode cX8_fits 138 = .ok (.iaload, 1) := by decide +kernel
theorem dX8_fits_139 : decode cX8_fits 139 = .ok (.if_icmp .ne 7, 3) := by decide +kernel
theorem dX8_fits_142 : decode cX8_fits 142 = .ok (.iconst 1, 1) := by decide +kernel
theorem dX8_fits_143 : decode cX8_fits 143 = .ok (.goto 4, 3) := by decide +kernel
theorem dX8_fits_146 : decode cX8_fits 146 = .ok (.iconst 0, 1) := by decide +kernel
theorem dX8_fits_147 : decode cX8_fits 147 = .ok (.istore 8, 2) := by decide +kernel
theorem dX8_fits_149 : decode cX8_fits 149 = .ok (.iinc 9 1, 3) := by decide +kernel
theorem dX8_fits_152 : decode cX8_fits 152 = .ok (.goto (-56), 3) := by decide +kernel
theorem dX8_fits_155 : decode cX8_fits 155 = .ok (.iload 6, 2) := by decide +kernel
theorem dX8_fits_157 : decode cX8_fits 157 = .ok (.iload 8, 2) := by decide +kernel
theorem dX8_fits_159 : decode cX8_fits 159 = .ok (.ifCond .eq 10, 3) := by decide +kernel
theorem dX8_fits_162 : decode cX8_fits 162 = .ok (.iconst 1, 1) := by decide +kernel
theorem dX8_fits_163 : decode cX8_fits 163 = .ok (.iload 7, 2) := by decide +kernel
theorem dX8_fits_165 : decode cX8_fits 165 = .ok (.ishl, 1) := by decide +kernel
theorem dX8_fits_166 : decode cX8_fits 166 = .ok (.goto 4, 3) := by decide +kernel
theorem dX8_fits_169 : decode cX8_fits 169 = .ok (.iconst 0, 1) := by decide +kernel
theorem dX8_fits_170 : decode cX8_fits 170 = .ok (.ior, 1) := by decide +kernel
theorem dX8_fits_171 : decode cX8_fits 171 = .ok (.istore 6, 2) := by decide +kernel
theorem dX8_fits_173 : decode cX8_fits 173 = .ok (.iinc 7 1, 3) := by decide +kernel
theorem dX8_fits_176 : decode cX8_fits 176 = .ok (.goto (-112), 3) := by decide +kernel
theorem dX8_fits_179 : decode cX8_fits 179 = .ok (.aload_n 0, 1) := by decide +kernel
theorem dX8_fits_180 : decode cX8_fits 180 = .ok (.iload 6, 2) := by decide +kernel
theorem dX8_fits_182 : decode cX8_fits 182 = .ok (.invokevirtual 53, 3) := by decide +kernel
theorem dX8_fits_185 : decode cX8_fits 185 = .ok (.ireturn, 1) := by decide +kernel
theorem lq_X8_round_0 {w : Cond} (h : w ∈ (wsX8_round_r1 : List Cond)) : w ∈ wsX8_round := List.mem_cons_of_mem _ (List.mem_append_left _ (List.mem_append_left _ (h)))
theorem lq_X8_round_1 {w : Cond} (h : w ∈ (wsX8_round_r2 : List Cond)) : w ∈ wsX8_round := List.mem_cons_of_mem _ (List.mem_append_left _ (List.mem_append_right _ (h)))
theorem lt_X8_round_X8 : ∀ w ∈ wsX80, w ∈ wsX8_round := fun _ h => List.mem_cons_of_mem _ (List.mem_append_right _ (h))
set_option maxRecDepth 20000 in
theorem ggX8_round_X8_isWalkerThere : GoodIn wsX8_round wsX8_isWalkerThere := goodIn_sub (List.forall_mem_cons.mpr ⟨lq_X8_round_0 (List.mem_of_getElem? (i := 6) rfl), (List.forall_mem_append.mpr ⟨(show ∀ w ∈ ([.fieldLink RX8 7 "WinterWalkModel" "slot" "[I", .methodLink RX8 42 yX8_in, .static yX8_in, .initialized RX8, .code yX8_in cX8_in 6 (some .boolean)] : List Cond), w ∈ wsX8_round from List.forall_mem_cons.mpr ⟨lq_X8_round_0 (List.mem_of_getElem? (i := 1) rfl), List.forall_mem_cons.mpr ⟨lq_X8_round_0 (List.mem_of_getElem? (i := 7) rfl), List.forall_mem_cons.mpr ⟨lq_X8_round_0 (List.mem_of_getElem? (i := 8) rfl), List.forall_mem_cons.mpr ⟨lq_X8_round_0 (List.mem_of_getElem? (i := 5) rfl), List.forall_mem_cons.mpr ⟨lq_X8_round_0 (List.mem_of_getElem? (i := 9) rfl), fun _ h => absurd h List.not_mem_nil⟩⟩⟩⟩⟩), lt_X8_round_X8⟩)⟩) (by decide +kernel)
set_option maxRecDepth 20000 in
theorem gX8_round_X8_isWalkerThere : GoodIn wsX8_round (wsV RX8 157 RX8 yX8_isWalkerThere wsX8_isWalkerThere) := goodIn_app (goodIn_sub (List.forall_mem_cons.mpr ⟨lq_X8_round_0 (List.mem_of_getElem? (i := 2) rfl), List.forall_mem_cons.mpr ⟨lq_X8_round_0 (List.mem_of_getElem? (i := 3) rfl), List.forall_mem_cons.mpr ⟨lq_X8_round_0 (List.mem_of_getElem? (i := 4) rfl), List.forall_mem_cons.mpr ⟨lq_X8_round_0 (List.mem_of_getElem? (i := 5) rfl), fun _ h => absurd h List.not_mem_nil⟩⟩⟩⟩) (by decide +kernel)) ggX8_round_X8_isWalkerThere
set_option maxRecDepth 20000 in
theorem ggX8_round_X8_copies : GoodIn wsX8_round wsX8_copies := goodIn_sub (List.forall_mem_cons.mpr ⟨lq_X8_round_0 (List.mem_of_getElem? (i := 13) rfl), (List.forall_mem_append.mpr ⟨(show ∀ w ∈ ([.fieldLink RX8 7 "WinterWalkModel" "slot" "[I"] : List Cond), w ∈ wsX8_round from List.forall_mem_cons.mpr ⟨lq_X8_round_0 (List.mem_of_getElem? (i := 1) rfl), fun _ h => absurd h List.not_mem_nil⟩), lt_X8_round_X8⟩)⟩) (by decide +kernel)
set_option maxRecDepth 20000 in
theorem gX8_round_X8_copies : GoodIn wsX8_round (wsV RX8 114 RX8 yX8_copies wsX8_copies) := goodIn_app (goodIn_sub (List.forall_mem_cons.mpr ⟨lq_X8_round_0 (List.mem_of_getElem? (i := 10) rfl), List.forall_mem_cons.mpr ⟨lq_X8_round_0 (List.mem_of_getElem? (i := 11) rfl), List.forall_mem_cons.mpr ⟨lq_X8_round_0 (List.mem_of_getElem? (i := 12) rfl), List.forall_mem_cons.mpr ⟨lq_X8_round_0 (List.mem_of_getElem? (i := 5) rfl), fun _ h => absurd h List.not_mem_nil⟩⟩⟩⟩) (by decide +kernel)) ggX8_round_X8_copies
set_option maxRecDepth 20000 in
theorem ggX8_round_X8_day : GoodIn wsX8_round wsX8_day := goodIn_sub (List.forall_mem_cons.mpr ⟨lq_X8_round_0 (List.mem_of_getElem? (i := 17) rfl), (List.forall_mem_append.mpr ⟨(List.forall_mem_append.mpr ⟨(show ∀ w ∈ (wsX8_day_r1 : List Cond), w ∈ wsX8_round from List.forall_mem_cons.mpr ⟨lq_X8_round_0 (List.mem_of_getElem? (i := 1) rfl), List.forall_mem_cons.mpr ⟨lq_X8_round_0 (List.mem_of_getElem? (i := 18) rfl), List.forall_mem_cons.mpr ⟨lq_X8_round_0 (List.mem_of_getElem? (i := 19) rfl), List.forall_mem_cons.mpr ⟨lq_X8_round_0 (List.mem_of_getElem? (i := 20) rfl), List.forall_mem_cons.mpr ⟨lq_X8_round_0 (List.mem_of_getElem? (i := 5) rfl), List.forall_mem_cons.mpr ⟨lq_X8_round_0 (List.mem_of_getElem? (i := 21) rfl), List.forall_mem_cons.mpr ⟨lq_X8_round_0 (List.mem_of_getElem? (i := 22) rfl), List.forall_mem_cons.mpr ⟨lq_X8_round_0 (List.mem_of_getElem? (i := 23) rfl), List.forall_mem_cons.mpr ⟨lq_X8_round_1 (List.mem_of_getElem? (i := 0) rfl), List.forall_mem_cons.mpr ⟨lq_X8_round_1 (List.mem_of_getElem? (i := 1) rfl), List.forall_mem_cons.mpr ⟨lq_X8_round_1 (List.mem_of_getElem? (i := 2) rfl), List.forall_mem_cons.mpr ⟨lq_X8_round_1 (List.mem_of_getElem? (i := 3) rfl), List.forall_mem_cons.mpr ⟨lq_X8_round_1 (List.mem_of_getElem? (i := 4) rfl), List.forall_mem_cons.mpr ⟨lq_X8_round_1 (List.mem_of_getElem? (i := 5) rfl), List.forall_mem_cons.mpr ⟨lq_X8_round_1 (List.mem_of_getElem? (i := 6) rfl), List.forall_mem_cons.mpr ⟨lq_X8_round_1 (List.mem_of_getElem? (i := 7) rfl), List.forall_mem_cons.mpr ⟨lq_X8_round_1 (List.mem_of_getElem? (i := 8) rfl), List.forall_mem_cons.mpr ⟨lq_X8_round_1 (List.mem_of_getElem? (i := 9) rfl), List.forall_mem_cons.mpr ⟨lq_X8_round_1 (List.mem_of_getElem? (i := 10) rfl), List.forall_mem_cons.mpr ⟨lq_X8_round_1 (List.mem_of_getElem? (i := 11) rfl), List.forall_mem_cons.mpr ⟨lq_X8_round_1 (List.mem_of_getElem? (i := 12) rfl), List.forall_mem_cons.mpr ⟨lq_X8_round_1 (List.mem_of_getElem? (i := 13) rfl), List.forall_mem_cons.mpr ⟨lq_X8_round_1 (List.mem_of_getElem? (i := 14) rfl), List.forall_mem_cons.mpr ⟨lq_X8_round_1 (List.mem_of_getElem? (i := 15) rfl), fun _ h => absurd h List.not_mem_nil⟩⟩⟩⟩⟩⟩⟩⟩⟩⟩⟩⟩⟩⟩⟩⟩⟩⟩⟩⟩⟩⟩⟩⟩), (show ∀ w ∈ (wsX8_day_r2 : List Cond), w ∈ wsX8_round from List.forall_mem_cons.mpr ⟨lq_X8_round_1 (List.mem_of_getElem? (i := 16) rfl), fun _ h => absurd h List.not_mem_nil⟩)⟩), lt_X8_round_X8⟩)⟩) (by decide +kernel)
set_option maxRecDepth 20000 in
theorem gX8_round_X8_day : GoodIn wsX8_round (wsV RX8 139 RX8 yX8_day wsX8_day) := goodIn_app (goodIn_sub (List.forall_mem_cons.mpr ⟨lq_X8_round_0 (List.mem_of_getElem? (i := 14) rfl), List.forall_mem_cons.mpr ⟨lq_X8_round_0 (List.mem_of_getElem? (i := 15) rfl), List.forall_mem_cons.mpr ⟨lq_X8_round_0 (List.mem_of_getElem? (i := 16) rfl), List.forall_mem_cons.mpr ⟨lq_X8_round_0 (List.mem_of_getElem? (i := 5) rfl), fun _ h => absurd h List.not_mem_nil⟩⟩⟩⟩) (by decide +kernel)) ggX8_round_X8_day
theorem dX8_round_0 : decode cX8_round 0 = .ok (.aload_n 0, 1) := by decide +kernel
theorem dX8_round_1 : decode cX8_round 1 = .ok (.iload_n 1, 1) := by decide +kernel
theorem dX8_round_2 : decode cX8_round 2 = .ok (.invokevirtual 157, 3) := by decide +kernel
theorem dX8_round_5 : decode cX8_round 5 = .ok (.ifCond .ne 6, 3) := by decide +kernel
theorem dX8_round_8 : decode cX8_round 8 = .ok (.ldc 48, 2) := by decide +kernel
theorem dX8_round_10 : decode cX8_round 10 = .ok (.ireturn, 1) := by decide +kernel
theorem dX8_round_11 : decode cX8_round 11 = .ok (.aload_n 0, 1) := by decide +kernel
theorem dX8_round_12 : decode cX8_round 12 = .ok (.iconst 0, 1) := by decide +kernel
theorem dX8_round_13 : decode cX8_round 13 = .ok (.bipush 27, 2) := by decide +kernel
theorem dX8_round_15 : decode cX8_round 15 = .ok (.invokevirtual 114, 3) := by decide +kernel
theorem dX8_round_18 : decode cX8_round 18 = .ok (.iconst 0, 1) := by decide +kernel
theorem dX8_round_19 : decode cX8_round 19 = .ok (.istore_n 2, 1) := by decide +kernel
theorem dX8_round_20 : decode cX8_round 20 = .ok (.iconst 0, 1) := by decide +kernel
theorem dX8_round_21 : decode cX8_round 21 = .ok (.istore_n 3, 1) := by decide +kernel
theorem dX8_round_22 : decode cX8_round 22 = .ok (.iload_n 3, 1) := by decide +kernel
theorem dX8_round_23 : decode cX8_round 23 = .ok (.sipush 200, 3) := by decide +kernel
theorem dX8_round_26 : decode cX8_round 26 = .ok (.if_icmp .ge 41, 3) := by decide +kernel
theorem dX8_round_29 : decode cX8_round 29 = .ok (.aload_n 0, 1) := by decide +kernel
theorem dX8_round_30 : decode cX8_round 30 = .ok (.bipush 27, 2) := by decide +kernel
theorem dX8_round_32 : decode cX8_round 32 = .ok (.iconst (-1), 1) := by decide +kernel
theorem dX8_round_33 : decode cX8_round 33 = .ok (.invokevirtual 139, 3) := by decide +kernel
theorem dX8_round_36 : decode cX8_round 36 = .ok (.iload_n 2, 1) := by decide +kernel
theorem dX8_round_37 : decode cX8_round 37 = .ok (.iload_n 3, 1) := by decide +kernel
theorem dX8_round_38 : decode cX8_round 38 = .ok (.bipush 100, 2) := by decide +kernel
theorem dX8_round_40 : decode cX8_round 40 = .ok (.if_icmp .ge 7, 3) := by decide +kernel
theorem dX8_round_43 : decode cX8_round 43 = .ok (.iconst 0, 1) := by decide +kernel
theorem dX8_round_44 : decode cX8_round 44 = .ok (.goto 15, 3) := by decide +kernel
theorem dX8_round_47 : decode cX8_round 47 = .ok (.iconst 1, 1) := by decide +kernel
theorem dX8_round_48 : decode cX8_round 48 = .ok (.aload_n 0, 1) := by decide +kernel
theorem dX8_round_49 : decode cX8_round 49 = .ok (.getfield 7, 3) := by decide +kernel
theorem dX8_round_52 : decode cX8_round 52 = .ok (.sipush 1587, 3) := by decide +kernel
theorem dX8_round_55 : decode cX8_round 55 = .ok (.iload_n 1, 1) := by decide +kernel
theorem dX8_round_56 : decode cX8_round 56 = .ok (.iadd, 1) := by decide +kernel
theorem dX8_round_57 : decode cX8_round 57 = .ok (.iaload, 1) := by decide +kernel
theorem dX8_round_58 : decode cX8_round 58 = .ok (.ishl, 1) := by decide +kernel
theorem dX8_round_59 : decode cX8_round 59 = .ok (.ior, 1) := by decide +kernel
theorem dX8_round_60 : decode cX8_round 60 = .ok (.istore_n 2, 1) := by decide +kernel
theorem dX8_round_61 : decode cX8_round 61 = .ok (.iinc 3 1, 3) := by decide +kernel
theorem dX8_round_64 : decode cX8_round 64 = .ok (.goto (-42), 3) := by decide +kernel
theorem dX8_round_67 : decode cX8_round 67 = .ok (.iload_n 2, 1) := by decide +kernel
theorem dX8_round_68 : decode cX8_round 68 = .ok (.ireturn, 1) := by decide +kernel
theorem dX8_meets_0 : decode cX8_meets 0 = .ok (.ldc 99, 2) := by decide +kernel
theorem dX8_meets_2 : decode cX8_meets 2 = .ok (.istore_n 2, 1) := by decide +kernel
theorem dX8_meets_3 : decode cX8_meets 3 = .ok (.iconst 0, 1) := by decide +kernel
theorem dX8_meets_4 : decode cX8_meets 4 = .ok (.istore_n 3, 1) := by decide +kernel
theorem dX8_meets_5 : decode cX8_meets 5 = .ok (.iload_n 3, 1) := by decide +kernel
theorem dX8_meets_6 : decode cX8_meets 6 = .ok (.aload_n 0, 1) := by decide +kernel
theorem dX8_meets_7 : decode cX8_meets 7 = .ok (.getfield 7, 3) := by decide +kernel
theorem dX8_meets_10 : decode cX8_meets 10 = .ok (.iload_n 1, 1) := by decide +kernel
theorem dX8_meets_11 : decode cX8_meets 11 = .ok (.bipush 57, 2) := by decide +kernel
theorem dX8_meets_13 : decode cX8_meets 13 = .ok (.imul, 1) := by decide +kernel
theorem dX8_meets_14 : decode cX8_meets 14 = .ok (.iconst 2, 1) := by decide +kernel
theorem dX8_meets_15 : decode cX8_meets 15 = .ok (.iadd, 1) := by decide +kernel
theorem dX8_meets_16 : decode cX8_meets 16 = .ok (.iaload, 1) := by decide +kernel
theorem dX8_meets_17 : decode cX8_meets 17 = .ok (.if_icmp .ge 77, 3) := by decide +kernel
theorem dX8_meets_20 : decode cX8_meets 20 = .ok (.iconst 0, 1) := by decide +kernel
theorem dX8_meets_21 : decode cX8_meets 21 = .ok (.istore 4, 2) := by decide +kernel
theorem dX8_meets_23 : decode cX8_meets 23 = .ok (.iload 4, 2) := by decide +kernel
theorem dX8_meets_25 : decode cX8_meets 25 = .ok (.iload_n 3, 1) := by decide +kernel
theorem dX8_meets_26 : decode cX8_meets 26 = .ok (.if_icmp .ge 62, 3) := by decide +kernel
theorem dX8_meets_29 : decode cX8_meets 29 = .ok (.aload_n 0, 1) := by decide +kernel
theorem dX8_meets_30 : decode cX8_meets 30 = .ok (.getfield 7, 3) := by decide +kernel
theorem dX8_meets_33 : decode cX8_meets 33 = .ok (.iload_n 1, 1) := by decide +kernel
theorem dX8_meets_34 : decode cX8_meets 34 = .ok (.bipush 57, 2) := by decide +kernel
theorem dX8_meets_36 : decode cX8_meets 36 = .ok (.imul, 1) := by decide +kernel
theorem dX8_meets_37 : decode cX8_meets 37 = .ok (.bipush 48, 2) := by decide +kernel
theorem dX8_meets_39 : decode cX8_meets 39 = .ok (.iadd, 1) := by decide +kernel
theorem dX8_meets_40 : decode cX8_meets 40 = .ok (.iload_n 3, 1) := by decide +kernel
theorem dX8_meets_41 : decode cX8_meets 41 = .ok (.iadd, 1) := by decide +kernel
theorem dX8_meets_42 : decode cX8_meets 42 = .ok (.iaload, 1) := by decide +kernel
theorem dX8_meets_43 : decode cX8_meets 43 = .ok (.istore 5, 2) := by decide +kernel
theorem dX8_meets_45 : decode cX8_meets 45 = .ok (.iload 5, 2) := by decide +kernel
theorem dX8_meets_47 : decode cX8_meets 47 = .ok (.aload_n 0, 1) := by decide +kernel
theorem dX8_meets_48 : decode cX8_meets 48 = .ok (.getfield 7, 3) := by decide +kernel
theorem dX8_meets_51 : decode cX8_meets 51 = .ok (.iload_n 1, 1) := by decide +kernel
theorem dX8_meets_52 : decode cX8_meets 52 = .ok (.bipush 57, 2) := by decide +kernel
theorem dX8_meets_54 : decode cX8_meets 54 = .ok (.imul, 1) := by decide +kernel
theorem dX8_meets_55 : decode cX8_meets 55 = .ok (.bipush 48, 2) := by decide +kernel
theorem dX8_meets_57 : decode cX8_meets 57 = .ok (.iadd, 1) := by decide +kernel
theorem dX8_meets_58 : decode cX8_meets 58 = .ok (.iload 4, 2) := by decide +kernel
theorem dX8_meets_60 : decode cX8_meets 60 = .ok (.iadd, 1) := by decide +kernel
theorem dX8_meets_61 : decode cX8_meets 61 = .ok (.iaload, 1) := by decide +kernel
theorem dX8_meets_62 : decode cX8_meets 62 = .ok (.if_icmp .ne 18, 3) := by decide +kernel
theorem dX8_meets_65 : decode cX8_meets 65 = .ok (.iload_n 2, 1) := by decide +kernel
theorem dX8_meets_66 : decode cX8_meets 66 = .ok (.ifCond .lt 9, 3) := by decide +kernel
theorem dX8_meets_69 : decode cX8_meets 69 = .ok (.iload 5, 2) := by decide +kernel
theorem dX8_meets_71 : decode cX8_meets 71 = .ok (.iload_n 2, 1) := by decide +kernel
theorem dX8_meets_72 : decode cX8_meets 72 = .ok (.if_icmp .ge 8, 3) := by decide +kernel
theorem dX8_meets_75 : decode cX8_meets 75 = .ok (.iload 5, 2) := by decide +kernel
theorem dX8_meets_77 : decode cX8_meets 77 = .ok (.goto 4, 3) := by decide +kernel
theorem dX8_meets_80 : decode cX8_meets 80 = .ok (.iload_n 2, 1) := by decide +kernel
theorem dX8_meets_81 : decode cX8_meets 81 = .ok (.istore_n 2, 1) := by decide +kernel
theorem dX8_meets_82 : decode cX8_meets 82 = .ok (.iinc 4 1, 3) := by decide +kernel
theorem dX8_meets_85 : decode cX8_meets 85 = .ok (.goto (-62), 3) := by decide +kernel
theorem dX8_meets_88 : decode cX8_meets 88 = .ok (.iinc 3 1, 3) := by decide +kernel
theorem dX8_meets_91 : decode cX8_meets 91 = .ok (.goto (-86), 3) := by decide +kernel
theorem dX8_meets_94 : decode cX8_meets 94 = .ok (.iload_n 2, 1) := by decide +kernel
theorem dX8_meets_95 : decode cX8_meets 95 = .ok (.ireturn, 1) := by decide +kernel
theorem lq_X8_meet_0 {w : Cond} (h : w ∈ (wsX8_meet_r1 : List Cond)) : w ∈ wsX8_meet := List.mem_cons_of_mem _ (List.mem_append_left _ (List.mem_append_left _ (h)))
theorem lq_X8_meet_1 {w : Cond} (h : w ∈ (wsX8_meet_r2 : List Cond)) : w ∈ wsX8_meet := List.mem_cons_of_mem _ (List.mem_append_left _ (List.mem_append_right _ (h)))
theorem lt_X8_meet_X8 : ∀ w ∈ wsX80, w ∈ wsX8_meet := fun _ h => List.mem_cons_of_mem _ (List.mem_append_right _ (h))
set_option maxRecDepth 20000 in
theorem ggX8_meet_X8_in : GoodIn wsX8_meet wsX8_in := goodIn_sub (List.forall_mem_cons.mpr ⟨lq_X8_meet_0 (List.mem_of_getElem? (i := 8) rfl), (show ∀ w ∈ ([] : List Cond), w ∈ wsX8_meet from fun _ h => absurd h List.not_mem_nil)⟩) (by decide +kernel)
set_option maxRecDepth 20000 in
theorem gX8_meet_X8_in : GoodIn wsX8_meet (va_wsS RX8 42 yX8_in wsX8_in) := goodIn_app (goodIn_sub (List.forall_mem_cons.mpr ⟨lq_X8_meet_0 (List.mem_of_getElem? (i := 5) rfl), List.forall_mem_cons.mpr ⟨lq_X8_meet_0 (List.mem_of_getElem? (i := 6) rfl), List.forall_mem_cons.mpr ⟨lq_X8_meet_0 (List.mem_of_getElem? (i := 7) rfl), fun _ h => absurd h List.not_mem_nil⟩⟩⟩) (by decide +kernel)) ggX8_meet_X8_in
set_option maxRecDepth 20000 in
theorem ggX8_meet_X8_copies : GoodIn wsX8_meet wsX8_copies := goodIn_sub (List.forall_mem_cons.mpr ⟨lq_X8_meet_0 (List.mem_of_getElem? (i := 12) rfl), (List.forall_mem_append.mpr ⟨(show ∀ w ∈ ([.fieldLink RX8 7 "WinterWalkModel" "slot" "[I"] : List Cond), w ∈ wsX8_meet from List.forall_mem_cons.mpr ⟨lq_X8_meet_0 (List.mem_of_getElem? (i := 0) rfl), fun _ h => absurd h List.not_mem_nil⟩), lt_X8_meet_X8⟩)⟩) (by decide +kernel)
set_option maxRecDepth 20000 in
theorem gX8_meet_X8_copies : GoodIn wsX8_meet (wsV RX8 114 RX8 yX8_copies wsX8_copies) := goodIn_app (goodIn_sub (List.forall_mem_cons.mpr ⟨lq_X8_meet_0 (List.mem_of_getElem? (i := 9) rfl), List.forall_mem_cons.mpr ⟨lq_X8_meet_0 (List.mem_of_getElem? (i := 10) rfl), List.forall_mem_cons.mpr ⟨lq_X8_meet_0 (List.mem_of_getElem? (i := 11) rfl), List.forall_mem_cons.mpr ⟨lq_X8_meet_0 (List.mem_of_getElem? (i := 7) rfl), fun _ h => absurd h List.not_mem_nil⟩⟩⟩⟩) (by decide +kernel)) ggX8_meet_X8_copies
set_option maxRecDepth 20000 in
theorem ggX8_meet_X8_day : GoodIn wsX8_meet wsX8_day := goodIn_sub (List.forall_mem_cons.mpr ⟨lq_X8_meet_0 (List.mem_of_getElem? (i := 16) rfl), (List.forall_mem_append.mpr ⟨(List.forall_mem_append.mpr ⟨(show ∀ w ∈ (wsX8_day_r1 : List Cond), w ∈ wsX8_meet from List.forall_mem_cons.mpr ⟨lq_X8_meet_0 (List.mem_of_getElem? (i := 0) rfl), List.forall_mem_cons.mpr ⟨lq_X8_meet_0 (List.mem_of_getElem? (i := 17) rfl), List.forall_mem_cons.mpr ⟨lq_X8_meet_0 (List.mem_of_getElem? (i := 18) rfl), List.forall_mem_cons.mpr ⟨lq_X8_meet_0 (List.mem_of_getElem? (i := 19) rfl), List.forall_mem_cons.mpr ⟨lq_X8_meet_0 (List.mem_of_getElem? (i := 7) rfl), List.forall_mem_cons.mpr ⟨lq_X8_meet_0 (List.mem_of_getElem? (i := 20) rfl), List.forall_mem_cons.mpr ⟨lq_X8_meet_0 (List.mem_of_getElem? (i := 21) rfl), List.forall_mem_cons.mpr ⟨lq_X8_meet_0 (List.mem_of_getElem? (i := 22) rfl), List.forall_mem_cons.mpr ⟨lq_X8_meet_0 (List.mem_of_getElem? (i := 23) rfl), List.forall_mem_cons.mpr ⟨lq_X8_meet_1 (List.mem_of_getElem? (i := 0) rfl), List.forall_mem_cons.mpr ⟨lq_X8_meet_1 (List.mem_of_getElem? (i := 1) rfl), List.forall_mem_cons.mpr ⟨lq_X8_meet_1 (List.mem_of_getElem? (i := 2) rfl), List.forall_mem_cons.mpr ⟨lq_X8_meet_1 (List.mem_of_getElem? (i := 3) rfl), List.forall_mem_cons.mpr ⟨lq_X8_meet_1 (List.mem_of_getElem? (i := 4) rfl), List.forall_mem_cons.mpr ⟨lq_X8_meet_1 (List.mem_of_getElem? (i := 5) rfl), List.forall_mem_cons.mpr ⟨lq_X8_meet_1 (List.mem_of_getElem? (i := 6) rfl), List.forall_mem_cons.mpr ⟨lq_X8_meet_1 (List.mem_of_getElem? (i := 7) rfl), List.forall_mem_cons.mpr ⟨lq_X8_meet_1 (List.mem_of_getElem? (i := 8) rfl), List.forall_mem_cons.mpr ⟨lq_X8_meet_1 (List.mem_of_getElem? (i := 9) rfl), List.forall_mem_cons.mpr ⟨lq_X8_meet_1 (List.mem_of_getElem? (i := 10) rfl), List.forall_mem_cons.mpr ⟨lq_X8_meet_1 (List.mem_of_getElem? (i := 11) rfl), List.forall_mem_cons.mpr ⟨lq_X8_meet_1 (List.mem_of_getElem? (i := 12) rfl), List.forall_mem_cons.mpr ⟨lq_X8_meet_1 (List.mem_of_getElem? (i := 13) rfl), List.forall_mem_cons.mpr ⟨lq_X8_meet_1 (List.mem_of_getElem? (i := 14) rfl), fun _ h => absurd h List.not_mem_nil⟩⟩⟩⟩⟩⟩⟩⟩⟩⟩⟩⟩⟩⟩⟩⟩⟩⟩⟩⟩⟩⟩⟩⟩), (show ∀ w ∈ (wsX8_day_r2 : List Cond), w ∈ wsX8_meet from List.forall_mem_cons.mpr ⟨lq_X8_meet_1 (List.mem_of_getElem? (i := 15) rfl), fun _ h => absurd h List.not_mem_nil⟩)⟩), lt_X8_meet_X8⟩)⟩) (by decide +kernel)
set_option maxRecDepth 20000 in
theorem gX8_meet_X8_day : GoodIn wsX8_meet (wsV RX8 139 RX8 yX8_day wsX8_day) := goodIn_app (goodIn_sub (List.forall_mem_cons.mpr ⟨lq_X8_meet_0 (List.mem_of_getElem? (i := 13) rfl), List.forall_mem_cons.mpr ⟨lq_X8_meet_0 (List.mem_of_getElem? (i := 14) rfl), List.forall_mem_cons.mpr ⟨lq_X8_meet_0 (List.mem_of_getElem? (i := 15) rfl), List.forall_mem_cons.mpr ⟨lq_X8_meet_0 (List.mem_of_getElem? (i := 7) rfl), fun _ h => absurd h List.not_mem_nil⟩⟩⟩⟩) (by decide +kernel)) ggX8_meet_X8_day
set_option maxRecDepth 20000 in
theorem ggX8_meet_X8_meets : GoodIn wsX8_meet wsX8_meets := goodIn_sub (List.forall_mem_cons.mpr ⟨lq_X8_meet_1 (List.mem_of_getElem? (i := 19) rfl), (List.forall_mem_append.mpr ⟨(show ∀ w ∈ ([.constant RX8 99 (-1000000), .fieldLink RX8 7 "WinterWalkModel" "slot" "[I"] : List Cond), w ∈ wsX8_meet from List.forall_mem_cons.mpr ⟨lq_X8_meet_0 (List.mem_of_getElem? (i := 4) rfl), List.forall_mem_cons.mpr ⟨lq_X8_meet_0 (List.mem_of_getElem? (i := 0) rfl), fun _ h => absurd h List.not_mem_nil⟩⟩), lt_X8_meet_X8⟩)⟩) (by decide +kernel)
set_option maxRecDepth 20000 in
theorem gX8_meet_X8_meets : GoodIn wsX8_meet (wsV RX8 185 RX8 yX8_meets wsX8_meets) := goodIn_app (goodIn_sub (List.forall_mem_cons.mpr ⟨lq_X8_meet_1 (List.mem_of_getElem? (i := 16) rfl), List.forall_mem_cons.mpr ⟨lq_X8_meet_1 (List.mem_of_getElem? (i := 17) rfl), List.forall_mem_cons.mpr ⟨lq_X8_meet_1 (List.mem_of_getElem? (i := 18) rfl), List.forall_mem_cons.mpr ⟨lq_X8_meet_0 (List.mem_of_getElem? (i := 7) rfl), fun _ h => absurd h List.not_mem_nil⟩⟩⟩⟩) (by decide +kernel)) ggX8_meet_X8_meets
theorem dX8_meet_0 : decode cX8_meet 0 = .ok (.aload_n 0, 1) := by decide +kernel
theorem dX8_meet_1 : decode cX8_meet 1 = .ok (.getfield 7, 3) := by decide +kernel
theorem dX8_meet_4 : decode cX8_meet 4 = .ok (.iconst 1, 1) := by decide +kernel
theorem dX8_meet_5 : decode cX8_meet 5 = .ok (.iaload, 1) := by decide +kernel
theorem dX8_meet_6 : decode cX8_meet 6 = .ok (.ifCond .ne 6, 3) := by decide +kernel
theorem dX8_meet_9 : decode cX8_meet 9 = .ok (.ldc 121, 2) := by decide +kernel
theorem dX8_meet_11 : decode cX8_meet 11 = .ok (.ireturn, 1) := by decide +kernel
theorem dX8_meet_12 : decode cX8_meet 12 = .ok (.iload_n 1, 1) := by decide +kernel
theorem dX8_meet_13 : decode cX8_meet 13 = .ok (.i2l, 1) := by decide +kernel
theorem dX8_meet_14 : decode cX8_meet 14 = .ok (.lconst 1, 1) := by decide +kernel
theorem dX8_meet_15 : decode cX8_meet 15 = .ok (.ldc2_w 160, 3) := by decide +kernel
theorem dX8_meet_18 : decode cX8_meet 18 = .ok (.invokestatic 42, 3) := by decide +kernel
theorem dX8_meet_21 : decode cX8_meet 21 = .ok (.ifCond .eq 13, 3) := by decide +kernel
theorem dX8_meet_24 : decode cX8_meet 24 = .ok (.iload_n 2, 1) := by decide +kernel
theorem dX8_meet_25 : decode cX8_meet 25 = .ok (.i2l, 1) := by decide +kernel
theorem dX8_meet_26 : decode cX8_meet 26 = .ok (.lconst 0, 1) := by decide +kernel
theorem dX8_meet_27 : decode cX8_meet 27 = .ok (.lconst 1, 1) := by decide +kernel
theorem dX8_meet_28 : decode cX8_meet 28 = .ok (.invokestatic 42, 3) := by decide +kernel
theorem dX8_meet_31 : decode cX8_meet 31 = .ok (.ifCond .ne 6, 3) := by decide +kernel
theorem dX8_meet_34 : decode cX8_meet 34 = .ok (.ldc 48, 2) := by decide +kernel
theorem dX8_meet_36 : decode cX8_meet 36 = .ok (.ireturn, 1) := by decide +kernel
theorem dX8_meet_37 : decode cX8_meet 37 = .ok (.aload_n 0, 1) := by decide +kernel
theorem dX8_meet_38 : decode cX8_meet 38 = .ok (.iconst 0, 1) := by decide +kernel
theorem dX8_meet_39 : decode cX8_meet 39 = .ok (.bipush 27, 2) := by decide +kernel
theorem dX8_meet_41 : decode cX8_meet 41 = .ok (.invokevirtual 114, 3) := by decide +kernel
theorem dX8_meet_44 : decode cX8_meet 44 = .ok (.iconst 0, 1) := by decide +kernel
theorem dX8_meet_45 : decode cX8_meet 45 = .ok (.istore_n 3, 1) := by decide +kernel
theorem dX8_meet_46 : decode cX8_meet 46 = .ok (.iload_n 3, 1) := by decide +kernel
theorem dX8_meet_47 : decode cX8_meet 47 = .ok (.iload_n 1, 1) := by decide +kernel
theorem dX8_meet_48 : decode cX8_meet 48 = .ok (.if_icmp .ge 40, 3) := by decide +kernel
theorem dX8_meet_51 : decode cX8_meet 51 = .ok (.aload_n 0, 1) := by decide +kernel
theorem dX8_meet_52 : decode cX8_meet 52 = .ok (.bipush 27, 2) := by decide +kernel
theorem dX8_meet_54 : decode cX8_meet 54 = .ok (.iconst (-1), 1) := by decide +kernel
theorem dX8_meet_55 : decode cX8_meet 55 = .ok (.invokevirtual 139, 3) := by decide +kernel
theorem dX8_meet_58 : decode cX8_meet 58 = .ok (.aload_n 0, 1) := by decide +kernel
theorem dX8_meet_59 : decode cX8_meet 59 = .ok (.bipush 27, 2) := by decide +kernel
theorem dX8_meet_61 : decode cX8_meet 61 = .ok (.invokevirtual 185, 3) := by decide +kernel
theorem dX8_meet_64 : decode cX8_meet 64 = .ok (.istore 4, 2) := by decide +kernel
theorem dX8_meet_66 : decode cX8_meet 66 = .ok (.iload 4, 2) := by decide +kernel
theorem dX8_meet_68 : decode cX8_meet 68 = .ok (.ifCond .lt 14, 3) := by decide +kernel
theorem dX8_meet_71 : decode cX8_meet 71 = .ok (.iload_n 2, 1) := by decide +kernel
theorem dX8_meet_72 : decode cX8_meet 72 = .ok (.ifCond .ne 7, 3) := by decide +kernel
theorem dX8_meet_75 : decode cX8_meet 75 = .ok (.iload_n 3, 1) := by decide +kernel
theorem dX8_meet_76 : decode cX8_meet 76 = .ok (.goto 5, 3) := by decide +kernel
theorem dX8_meet_79 : decode cX8_meet 79 = .ok (.iload 4, 2) := by decide +kernel
theorem dX8_meet_81 : decode cX8_meet 81 = .ok (.ireturn, 1) := by decide +kernel
theorem dX8_meet_82 : decode cX8_meet 82 = .ok (.iinc 3 1, 3) := by decide +kernel
theorem dX8_meet_85 : decode cX8_meet 85 = .ok (.goto (-39), 3) := by decide +kernel
theorem dX8_meet_88 : decode cX8_meet 88 = .ok (.ldc 99, 2) := by decide +kernel
theorem dX8_meet_90 : decode cX8_meet 90 = .ok (.ireturn, 1) := by decide +kernel
theorem lq_X8_alone_0 {w : Cond} (h : w ∈ ([.fieldLink RX8 7 "WinterWalkModel" "slot" "[I", .constant RX8 99 (-1000000), .methodLink RX8 114 yX8_copies, .instanceMethod yX8_copies, .selects RX8 yX8_copies yX8_copies, .initialized RX8, .code yX8_copies cX8_copies 4 none] : List Cond)) : w ∈ wsX8_alone := List.mem_cons_of_mem _ (List.mem_append_left _ (h))
theorem lt_X8_alone_X8 : ∀ w ∈ wsX80, w ∈ wsX8_alone := fun _ h => List.mem_cons_of_mem _ (List.mem_append_right _ (h))
set_option maxRecDepth 20000 in
theorem ggX8_alone_X8_copies : GoodIn wsX8_alone wsX8_copies := goodIn_sub (List.forall_mem_cons.mpr ⟨lq_X8_alone_0 (List.mem_of_getElem? (i := 6) rfl), (List.forall_mem_append.mpr ⟨(show ∀ w ∈ ([.fieldLink RX8 7 "WinterWalkModel" "slot" "[I"] : List Cond), w ∈ wsX8_alone from List.forall_mem_cons.mpr ⟨lq_X8_alone_0 (List.mem_of_getElem? (i := 0) rfl), fun _ h => absurd h List.not_mem_nil⟩), lt_X8_alone_X8⟩)⟩) (by decide +kernel)
set_option maxRecDepth 20000 in
theorem gX8_alone_X8_copies : GoodIn wsX8_alone (wsV RX8 114 RX8 yX8_copies wsX8_copies) := goodIn_app (goodIn_sub (List.forall_mem_cons.mpr ⟨lq_X8_alone_0 (List.mem_of_getElem? (i := 2) rfl), List.forall_mem_cons.mpr ⟨lq_X8_alone_0 (List.mem_of_getElem? (i := 3) rfl), List.forall_mem_cons.mpr ⟨lq_X8_alone_0 (List.mem_of_getElem? (i := 4) rfl), List.forall_mem_cons.mpr ⟨lq_X8_alone_0 (List.mem_of_getElem? (i := 5) rfl), fun _ h => absurd h List.not_mem_nil⟩⟩⟩⟩) (by decide +kernel)) ggX8_alone_X8_copies
theorem dX8_alone_0 : decode cX8_alone 0 = .ok (.aload_n 0, 1) := by decide +kernel
theorem dX8_alone_1 : decode cX8_alone 1 = .ok (.iconst 0, 1) := by decide +kernel
theorem dX8_alone_2 : decode cX8_alone 2 = .ok (.bipush 27, 2) := by decide +kernel
theorem dX8_alone_4 : decode cX8_alone 4 = .ok (.invokevirtual 114, 3) := by decide +kernel
theorem dX8_alone_7 : decode cX8_alone 7 = .ok (.aload_n 0, 1) := by decide +kernel
theorem dX8_alone_8 : decode cX8_alone 8 = .ok (.getfield 7, 3) := by decide +kernel
theorem dX8_alone_11 : decode cX8_alone 11 = .ok (.sipush 1587, 3) := by decide +kernel
theorem dX8_alone_14 : decode cX8_alone 14 = .ok (.iload_n 1, 1) := by decide +kernel
theorem dX8_alone_15 : decode cX8_alone 15 = .ok (.iadd, 1) := by decide +kernel
theorem dX8_alone_16 : decode cX8_alone 16 = .ok (.iload_n 2, 1) := by decide +kernel
theorem dX8_alone_17 : decode cX8_alone 17 = .ok (.iastore, 1) := by decide +kernel
theorem dX8_alone_18 : decode cX8_alone 18 = .ok (.aload_n 0, 1) := by decide +kernel
theorem dX8_alone_19 : decode cX8_alone 19 = .ok (.getfield 7, 3) := by decide +kernel
theorem dX8_alone_22 : decode cX8_alone 22 = .ok (.sipush 1590, 3) := by decide +kernel
theorem dX8_alone_25 : decode cX8_alone 25 = .ok (.iload_n 1, 1) := by decide +kernel
theorem dX8_alone_26 : decode cX8_alone 26 = .ok (.iadd, 1) := by decide +kernel
theorem dX8_alone_27 : decode cX8_alone 27 = .ok (.ldc 99, 2) := by decide +kernel
theorem dX8_alone_29 : decode cX8_alone 29 = .ok (.iastore, 1) := by decide +kernel
theorem dX8_alone_30 : decode cX8_alone 30 = .ok (.iconst 0, 1) := by decide +kernel
theorem dX8_alone_31 : decode cX8_alone 31 = .ok (.istore_n 3, 1) := by decide +kernel
theorem dX8_alone_32 : decode cX8_alone 32 = .ok (.iload_n 3, 1) := by decide +kernel
theorem dX8_alone_33 : decode cX8_alone 33 = .ok (.bipush 8, 2) := by decide +kernel
theorem dX8_alone_35 : decode cX8_alone 35 = .ok (.if_icmp .ge 20, 3) := by decide +kernel
theorem dX8_alone_38 : decode cX8_alone 38 = .ok (.aload_n 0, 1) := by decide +kernel
theorem dX8_alone_39 : decode cX8_alone 39 = .ok (.getfield 7, 3) := by decide +kernel
theorem dX8_alone_42 : decode cX8_alone 42 = .ok (.sipush 1571, 3) := by decide +kernel
theorem dX8_alone_45 : decode cX8_alone 45 = .ok (.iload_n 3, 1) := by decide +kernel
theorem dX8_alone_46 : decode cX8_alone 46 = .ok (.iadd, 1) := by decide +kernel
theorem dX8_alone_47 : decode cX8_alone 47 = .ok (.iconst 0, 1) := by decide +kernel
theorem dX8_alone_48 : decode cX8_alone 48 = .ok (.iastore, 1) := by decide +kernel
theorem dX8_alone_49 : decode cX8_alone 49 = .ok (.iinc 3 1, 3) := by decide +kernel
theorem dX8_alone_52 : decode cX8_alone 52 = .ok (.goto (-20), 3) := by decide +kernel
theorem dX8_alone_55 : decode cX8_alone 55 = .ok (.return_, 1) := by decide +kernel
theorem lq_X8_slept_0 {w : Cond} (h : w ∈ (wsX8_slept_r1 : List Cond)) : w ∈ wsX8_slept := List.mem_cons_of_mem _ (List.mem_append_left _ (List.mem_append_left _ (h)))
theorem lq_X8_slept_1 {w : Cond} (h : w ∈ (wsX8_slept_r2 : List Cond)) : w ∈ wsX8_slept := List.mem_cons_of_mem _ (List.mem_append_left _ (List.mem_append_right _ (List.mem_append_left _ (h))))
theorem lq_X8_slept_2 {w : Cond} (h : w ∈ (wsX8_slept_r3 : List Cond)) : w ∈ wsX8_slept := List.mem_cons_of_mem _ (List.mem_append_left _ (List.mem_append_right _ (List.mem_append_right _ (h))))
theorem lt_X8_slept_X8 : ∀ w ∈ wsX80, w ∈ wsX8_slept := fun _ h => List.mem_cons_of_mem _ (List.mem_append_right _ (h))
set_option maxRecDepth 20000 in
theorem ggX8_slept_X8_isWalkerThere : GoodIn wsX8_slept wsX8_isWalkerThere := goodIn_sub (List.forall_mem_cons.mpr ⟨lq_X8_slept_0 (List.mem_of_getElem? (i := 10) rfl), (List.forall_mem_append.mpr ⟨(show ∀ w ∈ ([.fieldLink RX8 7 "WinterWalkModel" "slot" "[I", .methodLink RX8 42 yX8_in, .static yX8_in, .initialized RX8, .code yX8_in cX8_in 6 (some .boolean)] : List Cond), w ∈ wsX8_slept from List.forall_mem_cons.mpr ⟨lq_X8_slept_0 (List.mem_of_getElem? (i := 4) rfl), List.forall_mem_cons.mpr ⟨lq_X8_slept_0 (List.mem_of_getElem? (i := 11) rfl), List.forall_mem_cons.mpr ⟨lq_X8_slept_0 (List.mem_of_getElem? (i := 12) rfl), List.forall_mem_cons.mpr ⟨lq_X8_slept_0 (List.mem_of_getElem? (i := 9) rfl), List.forall_mem_cons.mpr ⟨lq_X8_slept_0 (List.mem_of_getElem? (i := 13) rfl), fun _ h => absurd h List.not_mem_nil⟩⟩⟩⟩⟩), lt_X8_slept_X8⟩)⟩) (by decide +kernel)
set_option maxRecDepth 20000 in
theorem gX8_slept_X8_isWalkerThere : GoodIn wsX8_slept (wsV RX8 157 RX8 yX8_isWalkerThere wsX8_isWalkerThere) := goodIn_app (goodIn_sub (List.forall_mem_cons.mpr ⟨lq_X8_slept_0 (List.mem_of_getElem? (i := 6) rfl), List.forall_mem_cons.mpr ⟨lq_X8_slept_0 (List.mem_of_getElem? (i := 7) rfl), List.forall_mem_cons.mpr ⟨lq_X8_slept_0 (List.mem_of_getElem? (i := 8) rfl), List.forall_mem_cons.mpr ⟨lq_X8_slept_0 (List.mem_of_getElem? (i := 9) rfl), fun _ h => absurd h List.not_mem_nil⟩⟩⟩⟩) (by decide +kernel)) ggX8_slept_X8_isWalkerThere
set_option maxRecDepth 20000 in
theorem ggX8_slept_X8_in : GoodIn wsX8_slept wsX8_in := goodIn_sub (List.forall_mem_cons.mpr ⟨lq_X8_slept_0 (List.mem_of_getElem? (i := 13) rfl), (show ∀ w ∈ ([] : List Cond), w ∈ wsX8_slept from fun _ h => absurd h List.not_mem_nil)⟩) (by decide +kernel)
set_option maxRecDepth 20000 in
theorem gX8_slept_X8_in : GoodIn wsX8_slept (va_wsS RX8 42 yX8_in wsX8_in) := goodIn_app (goodIn_sub (List.forall_mem_cons.mpr ⟨lq_X8_slept_0 (List.mem_of_getElem? (i := 11) rfl), List.forall_mem_cons.mpr ⟨lq_X8_slept_0 (List.mem_of_getElem? (i := 12) rfl), List.forall_mem_cons.mpr ⟨lq_X8_slept_0 (List.mem_of_getElem? (i := 9) rfl), fun _ h => absurd h List.not_mem_nil⟩⟩⟩) (by decide +kernel)) ggX8_slept_X8_in
set_option maxRecDepth 20000 in
theorem ggX8_slept_X8_why : GoodIn wsX8_slept wsX8_why := goodIn_sub (List.forall_mem_cons.mpr ⟨lq_X8_slept_0 (List.mem_of_getElem? (i := 17) rfl), (List.forall_mem_append.mpr ⟨(show ∀ w ∈ ([.fieldLink RX8 13 "WinterWalkModel" "size" "[I"] : List Cond), w ∈ wsX8_slept from List.forall_mem_cons.mpr ⟨lq_X8_slept_0 (List.mem_of_getElem? (i := 18) rfl), fun _ h => absurd h List.not_mem_nil⟩), lt_X8_slept_X8⟩)⟩) (by decide +kernel)
set_option maxRecDepth 20000 in
theorem gX8_slept_X8_why : GoodIn wsX8_slept (wsV RX8 182 RX8 yX8_why wsX8_why) := goodIn_app (goodIn_sub (List.forall_mem_cons.mpr ⟨lq_X8_slept_0 (List.mem_of_getElem? (i := 14) rfl), List.forall_mem_cons.mpr ⟨lq_X8_slept_0 (List.mem_of_getElem? (i := 15) rfl), List.forall_mem_cons.mpr ⟨lq_X8_slept_0 (List.mem_of_getElem? (i := 16) rfl), List.forall_mem_cons.mpr ⟨lq_X8_slept_0 (List.mem_of_getElem? (i := 9) rfl), fun _ h => absurd h List.not_mem_nil⟩⟩⟩⟩) (by decide +kernel)) ggX8_slept_X8_why
set_option maxRecDepth 20000 in
theorem ggX8_slept_X8_finds : GoodIn wsX8_slept wsX8_finds := goodIn_sub (List.forall_mem_cons.mpr ⟨lq_X8_slept_0 (List.mem_of_getElem? (i := 22) rfl), (List.forall_mem_append.mpr ⟨(show ∀ w ∈ ([.fieldLink RX8 35 "WinterWalkModel" "status" "I", .constant RX8 39 (-1000010)] : List Cond), w ∈ wsX8_slept from List.forall_mem_cons.mpr ⟨lq_X8_slept_0 (List.mem_of_getElem? (i := 23) rfl), List.forall_mem_cons.mpr ⟨lq_X8_slept_1 (List.mem_of_getElem? (i := 0) rfl), fun _ h => absurd h List.not_mem_nil⟩⟩), lt_X8_slept_X8⟩)⟩) (by decide +kernel)
set_option maxRecDepth 20000 in
theorem gX8_slept_X8_finds : GoodIn wsX8_slept (wsV RX8 49 RX8 yX8_finds wsX8_finds) := goodIn_app (goodIn_sub (List.forall_mem_cons.mpr ⟨lq_X8_slept_0 (List.mem_of_getElem? (i := 19) rfl), List.forall_mem_cons.mpr ⟨lq_X8_slept_0 (List.mem_of_getElem? (i := 20) rfl), List.forall_mem_cons.mpr ⟨lq_X8_slept_0 (List.mem_of_getElem? (i := 21) rfl), List.forall_mem_cons.mpr ⟨lq_X8_slept_0 (List.mem_of_getElem? (i := 9) rfl), fun _ h => absurd h List.not_mem_nil⟩⟩⟩⟩) (by decide +kernel)) ggX8_slept_X8_finds
set_option maxRecDepth 20000 in
theorem ggX8_slept_X8_alone : GoodIn wsX8_slept wsX8_alone := goodIn_sub (List.forall_mem_cons.mpr ⟨lq_X8_slept_1 (List.mem_of_getElem? (i := 4) rfl), (List.forall_mem_append.mpr ⟨(show ∀ w ∈ ([.fieldLink RX8 7 "WinterWalkModel" "slot" "[I", .constant RX8 99 (-1000000), .methodLink RX8 114 yX8_copies, .instanceMethod yX8_copies, .selects RX8 yX8_copies yX8_copies, .initialized RX8, .code yX8_copies cX8_copies 4 none] : List Cond), w ∈ wsX8_slept from List.forall_mem_cons.mpr ⟨lq_X8_slept_0 (List.mem_of_getElem? (i := 4) rfl), List.forall_mem_cons.mpr ⟨lq_X8_slept_0 (List.mem_of_getElem? (i := 3) rfl), List.forall_mem_cons.mpr ⟨lq_X8_slept_1 (List.mem_of_getElem? (i := 5) rfl), List.forall_mem_cons.mpr ⟨lq_X8_slept_1 (List.mem_of_getElem? (i := 6) rfl), List.forall_mem_cons.mpr ⟨lq_X8_slept_1 (List.mem_of_getElem? (i := 7) rfl), List.forall_mem_cons.mpr ⟨lq_X8_slept_0 (List.mem_of_getElem? (i := 9) rfl), List.forall_mem_cons.mpr ⟨lq_X8_slept_1 (List.mem_of_getElem? (i := 8) rfl), fun _ h => absurd h List.not_mem_nil⟩⟩⟩⟩⟩⟩⟩), lt_X8_slept_X8⟩)⟩) (by decide +kernel)
set_option maxRecDepth 20000 in
theorem gX8_slept_X8_alone : GoodIn wsX8_slept (wsV RX8 190 RX8 yX8_alone wsX8_alone) := goodIn_app (goodIn_sub (List.forall_mem_cons.mpr ⟨lq_X8_slept_1 (List.mem_of_getElem? (i := 1) rfl), List.forall_mem_cons.mpr ⟨lq_X8_slept_1 (List.mem_of_getElem? (i := 2) rfl), List.forall_mem_cons.mpr ⟨lq_X8_slept_1 (List.mem_of_getElem? (i := 3) rfl), List.forall_mem_cons.mpr ⟨lq_X8_slept_0 (List.mem_of_getElem? (i := 9) rfl), fun _ h => absurd h List.not_mem_nil⟩⟩⟩⟩) (by decide +kernel)) ggX8_slept_X8_alone
set_option maxRecDepth 20000 in
theorem ggX8_slept_X8_day : GoodIn wsX8_slept wsX8_day := goodIn_sub (List.forall_mem_cons.mpr ⟨lq_X8_slept_1 (List.mem_of_getElem? (i := 12) rfl), (List.forall_mem_append.mpr ⟨(List.forall_mem_append.mpr ⟨(show ∀ w ∈ (wsX8_day_r1 : List Cond), w ∈ wsX8_slept from List.forall_mem_cons.mpr ⟨lq_X8_slept_0 (List.mem_of_getElem? (i := 4) rfl), List.forall_mem_cons.mpr ⟨lq_X8_slept_1 (List.mem_of_getElem? (i := 13) rfl), List.forall_mem_cons.mpr ⟨lq_X8_slept_1 (List.mem_of_getElem? (i := 14) rfl), List.forall_mem_cons.mpr ⟨lq_X8_slept_1 (List.mem_of_getElem? (i := 15) rfl), List.forall_mem_cons.mpr ⟨lq_X8_slept_0 (List.mem_of_getElem? (i := 9) rfl), List.forall_mem_cons.mpr ⟨lq_X8_slept_1 (List.mem_of_getElem? (i := 16) rfl), List.forall_mem_cons.mpr ⟨lq_X8_slept_1 (List.mem_of_getElem? (i := 17) rfl), List.forall_mem_cons.mpr ⟨lq_X8_slept_1 (List.mem_of_getElem? (i := 18) rfl), List.forall_mem_cons.mpr ⟨lq_X8_slept_1 (List.mem_of_getElem? (i := 19) rfl), List.forall_mem_cons.mpr ⟨lq_X8_slept_1 (List.mem_of_getElem? (i := 20) rfl), List.forall_mem_cons.mpr ⟨lq_X8_slept_1 (List.mem_of_getElem? (i := 21) rfl), List.forall_mem_cons.mpr ⟨lq_X8_slept_1 (List.mem_of_getElem? (i := 22) rfl), List.forall_mem_cons.mpr ⟨lq_X8_slept_1 (List.mem_of_getElem? (i := 23) rfl), List.forall_mem_cons.mpr ⟨lq_X8_slept_2 (List.mem_of_getElem? (i := 0) rfl), List.forall_mem_cons.mpr ⟨lq_X8_slept_2 (List.mem_of_getElem? (i := 1) rfl), List.forall_mem_cons.mpr ⟨lq_X8_slept_2 (List.mem_of_getElem? (i := 2) rfl), List.forall_mem_cons.mpr ⟨lq_X8_slept_2 (List.mem_of_getElem? (i := 3) rfl), List.forall_mem_cons.mpr ⟨lq_X8_slept_2 (List.mem_of_getElem? (i := 4) rfl), List.forall_mem_cons.mpr ⟨lq_X8_slept_2 (List.mem_of_getElem? (i := 5) rfl), List.forall_mem_cons.mpr ⟨lq_X8_slept_2 (List.mem_of_getElem? (i := 6) rfl), List.forall_mem_cons.mpr ⟨lq_X8_slept_2 (List.mem_of_getElem? (i := 7) rfl), List.forall_mem_cons.mpr ⟨lq_X8_slept_2 (List.mem_of_getElem? (i := 8) rfl), List.forall_mem_cons.mpr ⟨lq_X8_slept_2 (List.mem_of_getElem? (i := 9) rfl), List.forall_mem_cons.mpr ⟨lq_X8_slept_2 (List.mem_of_getElem? (i := 10) rfl), fun _ h => absurd h List.not_mem_nil⟩⟩⟩⟩⟩⟩⟩⟩⟩⟩⟩⟩⟩⟩⟩⟩⟩⟩⟩⟩⟩⟩⟩⟩), (show ∀ w ∈ (wsX8_day_r2 : List Cond), w ∈ wsX8_slept from List.forall_mem_cons.mpr ⟨lq_X8_slept_2 (List.mem_of_getElem? (i := 11) rfl), fun _ h => absurd h List.not_mem_nil⟩)⟩), lt_X8_slept_X8⟩)⟩) (by decide +kernel)
set_option maxRecDepth 20000 in
theorem gX8_slept_X8_day : GoodIn wsX8_slept (wsV RX8 139 RX8 yX8_day wsX8_day) := goodIn_app (goodIn_sub (List.forall_mem_cons.mpr ⟨lq_X8_slept_1 (List.mem_of_getElem? (i := 9) rfl), List.forall_mem_cons.mpr ⟨lq_X8_slept_1 (List.mem_of_getElem? (i := 10) rfl), List.forall_mem_cons.mpr ⟨lq_X8_slept_1 (List.mem_of_getElem? (i := 11) rfl), List.forall_mem_cons.mpr ⟨lq_X8_slept_0 (List.mem_of_getElem? (i := 9) rfl), fun _ h => absurd h List.not_mem_nil⟩⟩⟩⟩) (by decide +kernel)) ggX8_slept_X8_day
set_option maxRecDepth 20000 in
theorem ggX8_slept_X8_frozen : GoodIn wsX8_slept wsX8_frozen := goodIn_sub (List.forall_mem_cons.mpr ⟨lq_X8_slept_2 (List.mem_of_getElem? (i := 15) rfl), (List.forall_mem_append.mpr ⟨(show ∀ w ∈ ([.fieldLink RX8 7 "WinterWalkModel" "slot" "[I"] : List Cond), w ∈ wsX8_slept from List.forall_mem_cons.mpr ⟨lq_X8_slept_0 (List.mem_of_getElem? (i := 4) rfl), fun _ h => absurd h List.not_mem_nil⟩), lt_X8_slept_X8⟩)⟩) (by decide +kernel)
set_option maxRecDepth 20000 in
theorem gX8_slept_X8_frozen : GoodIn wsX8_slept (wsV RX8 166 RX8 yX8_frozen wsX8_frozen) := goodIn_app (goodIn_sub (List.forall_mem_cons.mpr ⟨lq_X8_slept_2 (List.mem_of_getElem? (i := 12) rfl), List.forall_mem_cons.mpr ⟨lq_X8_slept_2 (List.mem_of_getElem? (i := 13) rfl), List.forall_mem_cons.mpr ⟨lq_X8_slept_2 (List.mem_of_getElem? (i := 14) rfl), List.forall_mem_cons.mpr ⟨lq_X8_slept_0 (List.mem_of_getElem? (i := 9) rfl), fun _ h => absurd h List.not_mem_nil⟩⟩⟩⟩) (by decide +kernel)) ggX8_slept_X8_frozen
set_option maxRecDepth 20000 in
theorem ggX8_slept_X8_told : GoodIn wsX8_slept wsX8_told := goodIn_sub (List.forall_mem_cons.mpr ⟨lq_X8_slept_2 (List.mem_of_getElem? (i := 19) rfl), (List.forall_mem_append.mpr ⟨(show ∀ w ∈ ([.fieldLink RX8 35 "WinterWalkModel" "status" "I"] : List Cond), w ∈ wsX8_slept from List.forall_mem_cons.mpr ⟨lq_X8_slept_0 (List.mem_of_getElem? (i := 23) rfl), fun _ h => absurd h List.not_mem_nil⟩), lt_X8_slept_X8⟩)⟩) (by decide +kernel)
set_option maxRecDepth 20000 in
theorem gX8_slept_X8_told : GoodIn wsX8_slept (wsV RX8 53 RX8 yX8_told wsX8_told) := goodIn_app (goodIn_sub (List.forall_mem_cons.mpr ⟨lq_X8_slept_2 (List.mem_of_getElem? (i := 16) rfl), List.forall_mem_cons.mpr ⟨lq_X8_slept_2 (List.mem_of_getElem? (i := 17) rfl), List.forall_mem_cons.mpr ⟨lq_X8_slept_2 (List.mem_of_getElem? (i := 18) rfl), List.forall_mem_cons.mpr ⟨lq_X8_slept_0 (List.mem_of_getElem? (i := 9) rfl), fun _ h => absurd h List.not_mem_nil⟩⟩⟩⟩) (by decide +kernel)) ggX8_slept_X8_told
theorem dX8_slept_0 : decode cX8_slept 0 = .ok (.aload_n 0, 1) := by decide +kernel
theorem dX8_slept_1 : decode cX8_slept 1 = .ok (.iload_n 1, 1) := by decide +kernel
theorem dX8_slept_2 : decode cX8_slept 2 = .ok (.invokevirtual 157, 3) := by decide +kernel
theorem dX8_slept_5 : decode cX8_slept 5 = .ok (.ifCond .eq 39, 3) := by decide +kernel
theorem dX8_slept_8 : decode cX8_slept 8 = .ok (.iload_n 2, 1) := by decide +kernel
theorem dX8_slept_9 : decode cX8_slept 9 = .ok (.i2l, 1) := by decide +kernel
theorem dX8_slept_10 : decode cX8_slept 10 = .ok (.lconst 0, 1) := by decide +kernel
theorem dX8_slept_11 : decode cX8_slept 11 = .ok (.ldc2_w 40, 3) := by decide +kernel
theorem dX8_slept_14 : decode cX8_slept 14 = .ok (.invokestatic 42, 3) := by decide +kernel
theorem dX8_slept_17 : decode cX8_slept 17 = .ok (.ifCond .eq 27, 3) := by decide +kernel
theorem dX8_slept_20 : decode cX8_slept 20 = .ok (.iload 4, 2) := by decide +kernel
theorem dX8_slept_22 : decode cX8_slept 22 = .ok (.i2l, 1) := by decide +kernel
theorem dX8_slept_23 : decode cX8_slept 23 = .ok (.lconst 1, 1) := by decide +kernel
theorem dX8_slept_24 : decode cX8_slept 24 = .ok (.ldc2_w 188, 3) := by decide +kernel
theorem dX8_slept_27 : decode cX8_slept 27 = .ok (.invokestatic 42, 3) := by decide +kernel
theorem dX8_slept_30 : decode cX8_slept 30 = .ok (.ifCond .eq 14, 3) := by decide +kernel
theorem dX8_slept_33 : decode cX8_slept 33 = .ok (.iload 5, 2) := by decide +kernel
theorem dX8_slept_35 : decode cX8_slept 35 = .ok (.i2l, 1) := by decide +kernel
theorem dX8_slept_36 : decode cX8_slept 36 = .ok (.lconst 0, 1) := by decide +kernel
theorem dX8_slept_37 : decode cX8_slept 37 = .ok (.lconst 1, 1) := by decide +kernel
theorem dX8_slept_38 : decode cX8_slept 38 = .ok (.invokestatic 42, 3) := by decide +kernel
theorem dX8_slept_41 : decode cX8_slept 41 = .ok (.ifCond .ne 6, 3) := by decide +kernel
theorem dX8_slept_44 : decode cX8_slept 44 = .ok (.ldc 48, 2) := by decide +kernel
theorem dX8_slept_46 : decode cX8_slept 46 = .ok (.ireturn, 1) := by decide +kernel
theorem dX8_slept_47 : decode cX8_slept 47 = .ok (.aload_n 0, 1) := by decide +kernel
theorem dX8_slept_48 : decode cX8_slept 48 = .ok (.iload_n 2, 1) := by decide +kernel
theorem dX8_slept_49 : decode cX8_slept 49 = .ok (.iload_n 3, 1) := by decide +kernel
theorem dX8_slept_50 : decode cX8_slept 50 = .ok (.iload 4, 2) := by decide +kernel
theorem dX8_slept_52 : decode cX8_slept 52 = .ok (.invokevirtual 182, 3) := by decide +kernel
theorem dX8_slept_55 : decode cX8_slept 55 = .ok (.istore 6, 2) := by decide +kernel
theorem dX8_slept_57 : decode cX8_slept 57 = .ok (.iload 6, 2) := by decide +kernel
theorem dX8_slept_59 : decode cX8_slept 59 = .ok (.ifCond .le 10, 3) := by decide +kernel
theorem dX8_slept_62 : decode cX8_slept 62 = .ok (.aload_n 0, 1) := by decide +kernel
theorem dX8_slept_63 : decode cX8_slept 63 = .ok (.iload 6, 2) := by decide +kernel
theorem dX8_slept_65 : decode cX8_slept 65 = .ok (.invokevirtual 49, 3) := by decide +kernel
theorem dX8_slept_68 : decode cX8_slept 68 = .ok (.ireturn, 1) := by decide +kernel
theorem dX8_slept_69 : decode cX8_slept 69 = .ok (.iconst 0, 1) := by decide +kernel
theorem dX8_slept_70 : decode cX8_slept 70 = .ok (.istore 7, 2) := by decide +kernel
theorem dX8_slept_72 : decode cX8_slept 72 = .ok (.ldc 99, 2) := by decide +kernel
theorem dX8_slept_74 : decode cX8_slept 74 = .ok (.istore 8, 2) := by decide +kernel
theorem dX8_slept_76 : decode cX8_slept 76 = .ok (.iconst 0, 1) := by decide +kernel
theorem dX8_slept_77 : decode cX8_slept 77 = .ok (.istore 9, 2) := by decide +kernel
theorem dX8_slept_79 : decode cX8_slept 79 = .ok (.iload 9, 2) := by decide +kernel
theorem dX8_slept_81 : decode cX8_slept 81 = .ok (.aload_n 0, 1) := by decide +kernel
theorem dX8_slept_82 : decode cX8_slept 82 = .ok (.getfield 7, 3) := by decide +kernel
theorem dX8_slept_85 : decode cX8_slept 85 = .ok (.iconst 1, 1) := by decide +kernel
theorem dX8_slept_86 : decode cX8_slept 86 = .ok (.iaload, 1) := by decide +kernel
theorem dX8_slept_87 : decode cX8_slept 87 = .ok (.if_icmp .ge 111, 3) := by decide +kernel
theorem dX8_slept_90 : decode cX8_slept 90 = .ok (.aload_n 0, 1) := by decide +kernel
theorem dX8_slept_91 : decode cX8_slept 91 = .ok (.iload_n 1, 1) := by decide +kernel
theorem dX8_slept_92 : decode cX8_slept 92 = .ok (.iload 9, 2) := by decide +kernel
theorem dX8_slept_94 : decode cX8_slept 94 = .ok (.invokevirtual 190, 3) := by decide +kernel
theorem dX8_slept_97 : decode cX8_slept 97 = .ok (.iconst 1, 1) := by decide +kernel
theorem dX8_slept_98 : decode cX8_slept 98 = .ok (.istore 10, 2) := by decide +kernel
theorem dX8_slept_100 : decode cX8_slept 100 = .ok (.iconst 0, 1) := by decide +kernel
theorem dX8_slept_101 : decode cX8_slept 101 = .ok (.istore 11, 2) := by decide +kernel
theorem dX8_slept_103 : decode cX8_slept 103 = .ok (.iload 11, 2) := by decide +kernel
theorem dX8_slept_105 : decode cX8_slept 105 = .ok (.iload 4, 2) := by decide +kernel
theorem dX8_slept_107 : decode cX8_slept 107 = .ok (.if_icmp .ge 51, 3) := by decide +kernel
theorem dX8_slept_110 : decode cX8_slept 110 = .ok (.aload_n 0, 1) := by decide +kernel
theorem dX8_slept_111 : decode cX8_slept 111 = .ok (.bipush 27, 2) := by decide +kernel
theorem dX8_slept_113 : decode cX8_slept 113 = .ok (.iload_n 1, 1) := by decide +kernel
theorem dX8_slept_114 : decode cX8_slept 114 = .ok (.invokevirtual 139, 3) := by decide +kernel
theorem dX8_slept_117 : decode cX8_slept 117 = .ok (.iload 10, 2) := by decide +kernel
theorem dX8_slept_119 : decode cX8_slept 119 = .ok (.ifCond .eq 30, 3) := by decide +kernel
theorem dX8_slept_122 : decode cX8_slept 122 = .ok (.aload_n 0, 1) := by decide +kernel
theorem dX8_slept_123 : decode cX8_slept 123 = .ok (.bipush 27, 2) := by decide +kernel
theorem dX8_slept_125 : decode cX8_slept 125 = .ok (.invokevirtual 166, 3) := by decide +kernel
theorem dX8_slept_128 : decode cX8_slept 128 = .ok (.aload_n 0, 1) := by decide +kernel
theorem dX8_slept_129 : decode cX8_slept 129 = .ok (.getfield 19, 3) := by decide +kernel
theorem dX8_slept_132 : decode cX8_slept 132 = .ok (.bipush 40, 2) := by decide +kernel
theorem dX8_slept_134 : decode cX8_slept 134 = .ok (.iload_n 2, 1) := by decide +kernel
theorem dX8_slept_135 : decode cX8_slept 135 = .ok (.imul, 1) := by decide +kernel
theorem dX8_slept_136 : decode cX8_slept 136 = .ok (.iload_n 3, 1) := by decide +kernel
theorem dX8_slept_137 : decode cX8_slept 137 = .ok (.iadd, 1) := by decide +kernel
theorem dX8_slept_138 : decode cX8_slept 138 = .ok (.iload 11, 2) := by decide +kernel
theorem dX8_slept_140 : decode cX8_slept 140 = .ok (.iadd, 1) := by decide +kernel
theorem dX8_slept_141 : decode cX8_slept 141 = .ok (.iaload, 1) := by decide +kernel
theorem dX8_slept_142 : decode cX8_slept 142 = .ok (.if_icmp .ne 7, 3) := by decide +kernel
theorem dX8_slept_145 : decode cX8_slept 145 = .ok (.iconst 1, 1) := by decide +kernel
theorem dX8_slept_146 : decode cX8_slept 146 = .ok (.goto 4, 3) := by decide +kernel
theorem dX8_slept_149 : decode cX8_slept 149 = .ok (.iconst 0, 1) := by decide +kernel
theorem dX8_slept_150 : decode cX8_slept 150 = .ok (.istore 10, 2) := by decide +kernel
theorem dX8_slept_152 : decode cX8_slept 152 = .ok (.iinc 11 1, 3) := by decide +kernel
theorem dX8_slept_155 : decode cX8_slept 155 = .ok (.goto (-52), 3) := by decide +kernel
theorem dX8_slept_158 : decode cX8_slept 158 = .ok (.iload 10, 2) := by decide +kernel
theorem dX8_slept_160 : decode cX8_slept 160 = .ok (.ifCond .eq 13, 3) := by decide +kernel
theorem dX8_slept_163 : decode cX8_slept 163 = .ok (.iload 7, 2) := by decide +kernel
theorem dX8_slept_165 : decode cX8_slept 165 = .ok (.ifCond .ne 8, 3) := by decide +kernel
theorem dX8_slept_168 : decode cX8_slept 168 = .ok (.iload 9, 2) := by decide +kernel
theorem dX8_slept_170 : decode cX8_slept 170 = .ok (.goto 5, 3) := by decide +kernel
theorem dX8_slept_173 : decode cX8_slept 173 = .ok (.iload 8, 2) := by decide +kernel
theorem dX8_slept_175 : decode cX8_slept 175 = .ok (.istore 8, 2) := by decide +kernel
theorem dX8_slept_177 : decode cX8_slept 177 = .ok (.iload 7, 2) := by decide +kernel
theorem dX8_slept_179 : decode cX8_slept 179 = .ok (.iload 10, 2) := by decide +kernel
theorem dX8_slept_181 : decode cX8_slept 181 = .ok (.ifCond .eq 7, 3) := by decide +kernel
theorem dX8_slept_184 : decode cX8_slept 184 = .ok (.iconst 1, 1) := by decide +kernel
theorem dX8_slept_185 : decode cX8_slept 185 = .ok (.goto 4, 3) := by decide +kernel
theorem dX8_slept_188 : decode cX8_slept 188 = .ok (.iconst 0, 1) := by decide +kernel
theorem dX8_slept_189 : decode cX8_slept 189 = .ok (.iadd, 1) := by decide +kernel
theorem dX8_slept_190 : decode cX8_slept 190 = .ok (.istore 7, 2) := by decide +kernel
theorem dX8_slept_192 : decode cX8_slept 192 = .ok (.iinc 9 1, 3) := by decide +kernel
theorem dX8_slept_195 : decode cX8_slept 195 = .ok (.goto (-116), 3) := by decide +kernel
theorem dX8_slept_198 : decode cX8_slept 198 = .ok (.aload_n 0, 1) := by decide +kernel
theorem dX8_slept_199 : decode cX8_slept 199 = .ok (.iload 5, 2) := by decide +kernel
theorem dX8_slept_201 : decode cX8_slept 201 = .ok (.ifCond .ne 8, 3) := by decide +kernel
theorem dX8_slept_204 : decode cX8_slept 204 = .ok (.iload 7, 2) := by decide +kernel
theorem dX8_slept_206 : decode cX8_slept 206 = .ok (.goto 5, 3) := by decide +kernel
theorem dX8_slept_209 : decode cX8_slept 209 = .ok (.iload 8, 2) := by decide +kernel
theorem dX8_slept_211 : decode cX8_slept 211 = .ok (.invokevirtual 53, 3) := by decide +kernel
theorem dX8_slept_214 : decode cX8_slept 214 = .ok (.ireturn, 1) := by decide +kernel
theorem lq_X8_late_0 {w : Cond} (h : w ∈ (wsX8_late_r1 : List Cond)) : w ∈ wsX8_late := List.mem_cons_of_mem _ (List.mem_append_left _ (List.mem_append_left _ (h)))
theorem lq_X8_late_1 {w : Cond} (h : w ∈ (wsX8_late_r2 : List Cond)) : w ∈ wsX8_late := List.mem_cons_of_mem _ (List.mem_append_left _ (List.mem_append_right _ (h)))
theorem lt_X8_late_X8 : ∀ w ∈ wsX80, w ∈ wsX8_late := fun _ h => List.mem_cons_of_mem _ (List.mem_append_right _ (h))
set_option maxRecDepth 20000 in
theorem ggX8_late_X8_isWalkerThere : GoodIn wsX8_late wsX8_isWalkerThere := goodIn_sub (List.forall_mem_cons.mpr ⟨lq_X8_late_0 (List.mem_of_getElem? (i := 8) rfl), (List.forall_mem_append.mpr ⟨(show ∀ w ∈ ([.fieldLink RX8 7 "WinterWalkModel" "slot" "[I", .methodLink RX8 42 yX8_in, .static yX8_in, .initialized RX8, .code yX8_in cX8_in 6 (some .boolean)] : List Cond), w ∈ wsX8_late from List.forall_mem_cons.mpr ⟨lq_X8_late_0 (List.mem_of_getElem? (i := 3) rfl), List.forall_mem_cons.mpr ⟨lq_X8_late_0 (List.mem_of_getElem? (i := 9) rfl), List.forall_mem_cons.mpr ⟨lq_X8_late_0 (List.mem_of_getElem? (i := 10) rfl), List.forall_mem_cons.mpr ⟨lq_X8_late_0 (List.mem_of_getElem? (i := 7) rfl), List.forall_mem_cons.mpr ⟨lq_X8_late_0 (List.mem_of_getElem? (i := 11) rfl), fun _ h => absurd h List.not_mem_nil⟩⟩⟩⟩⟩), lt_X8_late_X8⟩)⟩) (by decide +kernel)
set_option maxRecDepth 20000 in
theorem gX8_late_X8_isWalkerThere : GoodIn wsX8_late (wsV RX8 157 RX8 yX8_isWalkerThere wsX8_isWalkerThere) := goodIn_app (goodIn_sub (List.forall_mem_cons.mpr ⟨lq_X8_late_0 (List.mem_of_getElem? (i := 4) rfl), List.forall_mem_cons.mpr ⟨lq_X8_late_0 (List.mem_of_getElem? (i := 5) rfl), List.forall_mem_cons.mpr ⟨lq_X8_late_0 (List.mem_of_getElem? (i := 6) rfl), List.forall_mem_cons.mpr ⟨lq_X8_late_0 (List.mem_of_getElem? (i := 7) rfl), fun _ h => absurd h List.not_mem_nil⟩⟩⟩⟩) (by decide +kernel)) ggX8_late_X8_isWalkerThere
set_option maxRecDepth 20000 in
theorem ggX8_late_X8_in : GoodIn wsX8_late wsX8_in := goodIn_sub (List.forall_mem_cons.mpr ⟨lq_X8_late_0 (List.mem_of_getElem? (i := 11) rfl), (show ∀ w ∈ ([] : List Cond), w ∈ wsX8_late from fun _ h => absurd h List.not_mem_nil)⟩) (by decide +kernel)
set_option maxRecDepth 20000 in
theorem gX8_late_X8_in : GoodIn wsX8_late (va_wsS RX8 42 yX8_in wsX8_in) := goodIn_app (goodIn_sub (List.forall_mem_cons.mpr ⟨lq_X8_late_0 (List.mem_of_getElem? (i := 9) rfl), List.forall_mem_cons.mpr ⟨lq_X8_late_0 (List.mem_of_getElem? (i := 10) rfl), List.forall_mem_cons.mpr ⟨lq_X8_late_0 (List.mem_of_getElem? (i := 7) rfl), fun _ h => absurd h List.not_mem_nil⟩⟩⟩) (by decide +kernel)) ggX8_late_X8_in
set_option maxRecDepth 20000 in
theorem ggX8_late_X8_isVillageThere : GoodIn wsX8_late wsX8_isVillageThere := goodIn_sub (List.forall_mem_cons.mpr ⟨lq_X8_late_0 (List.mem_of_getElem? (i := 15) rfl), (List.forall_mem_append.mpr ⟨(show ∀ w ∈ ([.fieldLink RX8 7 "WinterWalkModel" "slot" "[I", .methodLink RX8 42 yX8_in, .static yX8_in, .initialized RX8, .code yX8_in cX8_in 6 (some .boolean)] : List Cond), w ∈ wsX8_late from List.forall_mem_cons.mpr ⟨lq_X8_late_0 (List.mem_of_getElem? (i := 3) rfl), List.forall_mem_cons.mpr ⟨lq_X8_late_0 (List.mem_of_getElem? (i := 9) rfl), List.forall_mem_cons.mpr ⟨lq_X8_late_0 (List.mem_of_getElem? (i := 10) rfl), List.forall_mem_cons.mpr ⟨lq_X8_late_0 (List.mem_of_getElem? (i := 7) rfl), List.forall_mem_cons.mpr ⟨lq_X8_late_0 (List.mem_of_getElem? (i := 11) rfl), fun _ h => absurd h List.not_mem_nil⟩⟩⟩⟩⟩), lt_X8_late_X8⟩)⟩) (by decide +kernel)
set_option maxRecDepth 20000 in
theorem gX8_late_X8_isVillageThere : GoodIn wsX8_late (wsV RX8 147 RX8 yX8_isVillageThere wsX8_isVillageThere) := goodIn_app (goodIn_sub (List.forall_mem_cons.mpr ⟨lq_X8_late_0 (List.mem_of_getElem? (i := 12) rfl), List.forall_mem_cons.mpr ⟨lq_X8_late_0 (List.mem_of_getElem? (i := 13) rfl), List.forall_mem_cons.mpr ⟨lq_X8_late_0 (List.mem_of_getElem? (i := 14) rfl), List.forall_mem_cons.mpr ⟨lq_X8_late_0 (List.mem_of_getElem? (i := 7) rfl), fun _ h => absurd h List.not_mem_nil⟩⟩⟩⟩) (by decide +kernel)) ggX8_late_X8_isVillageThere
set_option maxRecDepth 20000 in
theorem ggX8_late_X8_copies : GoodIn wsX8_late wsX8_copies := goodIn_sub (List.forall_mem_cons.mpr ⟨lq_X8_late_0 (List.mem_of_getElem? (i := 19) rfl), (List.forall_mem_append.mpr ⟨(show ∀ w ∈ ([.fieldLink RX8 7 "WinterWalkModel" "slot" "[I"] : List Cond), w ∈ wsX8_late from List.forall_mem_cons.mpr ⟨lq_X8_late_0 (List.mem_of_getElem? (i := 3) rfl), fun _ h => absurd h List.not_mem_nil⟩), lt_X8_late_X8⟩)⟩) (by decide +kernel)
set_option maxRecDepth 20000 in
theorem gX8_late_X8_copies : GoodIn wsX8_late (wsV RX8 114 RX8 yX8_copies wsX8_copies) := goodIn_app (goodIn_sub (List.forall_mem_cons.mpr ⟨lq_X8_late_0 (List.mem_of_getElem? (i := 16) rfl), List.forall_mem_cons.mpr ⟨lq_X8_late_0 (List.mem_of_getElem? (i := 17) rfl), List.forall_mem_cons.mpr ⟨lq_X8_late_0 (List.mem_of_getElem? (i := 18) rfl), List.forall_mem_cons.mpr ⟨lq_X8_late_0 (List.mem_of_getElem? (i := 7) rfl), fun _ h => absurd h List.not_mem_nil⟩⟩⟩⟩) (by decide +kernel)) ggX8_late_X8_copies
set_option maxRecDepth 20000 in
theorem ggX8_late_X8_day : GoodIn wsX8_late wsX8_day := goodIn_sub (List.forall_mem_cons.mpr ⟨lq_X8_late_0 (List.mem_of_getElem? (i := 23) rfl), (List.forall_mem_append.mpr ⟨(List.forall_mem_append.mpr ⟨(show ∀ w ∈ (wsX8_day_r1 : List Cond), w ∈ wsX8_late from List.forall_mem_cons.mpr ⟨lq_X8_late_0 (List.mem_of_getElem? (i := 3) rfl), List.forall_mem_cons.mpr ⟨lq_X8_late_1 (List.mem_of_getElem? (i := 0) rfl), List.forall_mem_cons.mpr ⟨lq_X8_late_1 (List.mem_of_getElem? (i := 1) rfl), List.forall_mem_cons.mpr ⟨lq_X8_late_1 (List.mem_of_getElem? (i := 2) rfl), List.forall_mem_cons.mpr ⟨lq_X8_late_0 (List.mem_of_getElem? (i := 7) rfl), List.forall_mem_cons.mpr ⟨lq_X8_late_1 (List.mem_of_getElem? (i := 3) rfl), List.forall_mem_cons.mpr ⟨lq_X8_late_1 (List.mem_of_getElem? (i := 4) rfl), List.forall_mem_cons.mpr ⟨lq_X8_late_1 (List.mem_of_getElem? (i := 5) rfl), List.forall_mem_cons.mpr ⟨lq_X8_late_1 (List.mem_of_getElem? (i := 6) rfl), List.forall_mem_cons.mpr ⟨lq_X8_late_1 (List.mem_of_getElem? (i := 7) rfl), List.forall_mem_cons.mpr ⟨lq_X8_late_1 (List.mem_of_getElem? (i := 8) rfl), List.forall_mem_cons.mpr ⟨lq_X8_late_1 (List.mem_of_getElem? (i := 9) rfl), List.forall_mem_cons.mpr ⟨lq_X8_late_1 (List.mem_of_getElem? (i := 10) rfl), List.forall_mem_cons.mpr ⟨lq_X8_late_1 (List.mem_of_getElem? (i := 11) rfl), List.forall_mem_cons.mpr ⟨lq_X8_late_1 (List.mem_of_getElem? (i := 12) rfl), List.forall_mem_cons.mpr ⟨lq_X8_late_1 (List.mem_of_getElem? (i := 13) rfl), List.forall_mem_cons.mpr ⟨lq_X8_late_1 (List.mem_of_getElem? (i := 14) rfl), List.forall_mem_cons.mpr ⟨lq_X8_late_1 (List.mem_of_getElem? (i := 15) rfl), List.forall_mem_cons.mpr ⟨lq_X8_late_1 (List.mem_of_getElem? (i := 16) rfl), List.forall_mem_cons.mpr ⟨lq_X8_late_1 (List.mem_of_getElem? (i := 17) rfl), List.forall_mem_cons.mpr ⟨lq_X8_late_1 (List.mem_of_getElem? (i := 18) rfl), List.forall_mem_cons.mpr ⟨lq_X8_late_1 (List.mem_of_getElem? (i := 19) rfl), List.forall_mem_cons.mpr ⟨lq_X8_late_1 (List.mem_of_getElem? (i := 20) rfl), List.forall_mem_cons.mpr ⟨lq_X8_late_1 (List.mem_of_getElem? (i := 21) rfl), fun _ h => absurd h List.not_mem_nil⟩⟩⟩⟩⟩⟩⟩⟩⟩⟩⟩⟩⟩⟩⟩⟩⟩⟩⟩⟩⟩⟩⟩⟩), (show ∀ w ∈ (wsX8_day_r2 : List Cond), w ∈ wsX8_late from List.forall_mem_cons.mpr ⟨lq_X8_late_1 (List.mem_of_getElem? (i := 22) rfl), fun _ h => absurd h List.not_mem_nil⟩)⟩), lt_X8_late_X8⟩)⟩) (by decide +kernel)
set_option maxRecDepth 20000 in
theorem gX8_late_X8_day : GoodIn wsX8_late (wsV RX8 139 RX8 yX8_day wsX8_day) := goodIn_app (goodIn_sub (List.forall_mem_cons.mpr ⟨lq_X8_late_0 (List.mem_of_getElem? (i := 20) rfl), List.forall_mem_cons.mpr ⟨lq_X8_late_0 (List.mem_of_getElem? (i := 21) rfl), List.forall_mem_cons.mpr ⟨lq_X8_late_0 (List.mem_of_getElem? (i := 22) rfl), List.forall_mem_cons.mpr ⟨lq_X8_late_0 (List.mem_of_getElem? (i := 7) rfl), fun _ h => absurd h List.not_mem_nil⟩⟩⟩⟩) (by decide +kernel)) ggX8_late_X8_day
theorem dX8_late_0 : decode cX8_late 0 = .ok (.aload_n 0, 1) := by decide +kernel
theorem dX8_late_1 : decode cX8_late 1 = .ok (.iload_n 1, 1) := by decide +kernel
theorem dX8_late_2 : decode cX8_late 2 = .ok (.invokevirtual 157, 3) := by decide +kernel
theorem dX8_late_5 : decode cX8_late 5 = .ok (.ifCond .eq 47, 3) := by decide +kernel
theorem dX8_late_8 : decode cX8_late 8 = .ok (.iload_n 2, 1) := by decide +kernel
theorem dX8_late_9 : decode cX8_late 9 = .ok (.i2l, 1) := by decide +kernel
theorem dX8_late_10 : decode cX8_late 10 = .ok (.lconst 0, 1) := by decide +kernel
theorem dX8_late_11 : decode cX8_late 11 = .ok (.ldc2_w 193, 3) := by decide +kernel
theorem dX8_late_14 : decode cX8_late 14 = .ok (.invokestatic 42, 3) := by decide +kernel
theorem dX8_late_17 : decode cX8_late 17 = .ok (.ifCond .eq 35, 3) := by decide +kernel
theorem dX8_late_20 : decode cX8_late 20 = .ok (.iload_n 3, 1) := by decide +kernel
theorem dX8_late_21 : decode cX8_late 21 = .ok (.i2l, 1) := by decide +kernel
theorem dX8_late_22 : decode cX8_late 22 = .ok (.lconst 0, 1) := by decide +kernel
theorem dX8_late_23 : decode cX8_late 23 = .ok (.ldc2_w 195, 3) := by decide +kernel
theorem dX8_late_26 : decode cX8_late 26 = .ok (.invokestatic 42, 3) := by decide +kernel
theorem dX8_late_29 : decode cX8_late 29 = .ok (.ifCond .eq 23, 3) := by decide +kernel
theorem dX8_late_32 : decode cX8_late 32 = .ok (.aload_n 0, 1) := by decide +kernel
theorem dX8_late_33 : decode cX8_late 33 = .ok (.iload 4, 2) := by decide +kernel
theorem dX8_late_35 : decode cX8_late 35 = .ok (.invokevirtual 147, 3) := by decide +kernel
theorem dX8_late_38 : decode cX8_late 38 = .ok (.ifCond .eq 14, 3) := by decide +kernel
theorem dX8_late_41 : decode cX8_late 41 = .ok (.iload 5, 2) := by decide +kernel
theorem dX8_late_43 : decode cX8_late 43 = .ok (.i2l, 1) := by decide +kernel
theorem dX8_late_44 : decode cX8_late 44 = .ok (.lconst 0, 1) := by decide +kernel
theorem dX8_late_45 : decode cX8_late 45 = .ok (.lconst 1, 1) := by decide +kernel
theorem dX8_late_46 : decode cX8_late 46 = .ok (.invokestatic 42, 3) := by decide +kernel
theorem dX8_late_49 : decode cX8_late 49 = .ok (.ifCond .ne 7, 3) := by decide +kernel
theorem dX8_late_52 : decode cX8_late 52 = .ok (.ldc2_w 197, 3) := by decide +kernel
theorem dX8_late_55 : decode cX8_late 55 = .ok (.lreturn, 1) := by decide +kernel
theorem dX8_late_56 : decode cX8_late 56 = .ok (.aload_n 0, 1) := by decide +kernel
theorem dX8_late_57 : decode cX8_late 57 = .ok (.iconst 0, 1) := by decide +kernel
theorem dX8_late_58 : decode cX8_late 58 = .ok (.bipush 27, 2) := by decide +kernel
theorem dX8_late_60 : decode cX8_late 60 = .ok (.invokevirtual 114, 3) := by decide +kernel
theorem dX8_late_63 : decode cX8_late 63 = .ok (.lconst 0, 1) := by decide +kernel
theorem dX8_late_64 : decode cX8_late 64 = .ok (.lstore 6, 2) := by decide +kernel
theorem dX8_late_66 : decode cX8_late 66 = .ok (.lconst 1, 1) := by decide +kernel
theorem dX8_late_67 : decode cX8_late 67 = .ok (.lstore 8, 2) := by decide +kernel
theorem dX8_late_69 : decode cX8_late 69 = .ok (.lconst 1, 1) := by decide +kernel
theorem dX8_late_70 : decode cX8_late 70 = .ok (.lstore 10, 2) := by decide +kernel
