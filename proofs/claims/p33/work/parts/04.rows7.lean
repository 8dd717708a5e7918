theorem dX8_late_72 : decode cX8_late 72 = .ok (.iconst 0, 1) := by decide +kernel
theorem dX8_late_73 : decode cX8_late 73 = .ok (.istore 12, 2) := by decide +kernel
theorem dX8_late_75 : decode cX8_late 75 = .ok (.iload 12, 2) := by decide +kernel
theorem dX8_late_77 : decode cX8_late 77 = .ok (.iload_n 3, 1) := by decide +kernel
theorem dX8_late_78 : decode cX8_late 78 = .ok (.if_icmp .gt 117, 3) := by decide +kernel
theorem dX8_late_81 : decode cX8_late 81 = .ok (.lload 10, 2) := by decide +kernel
theorem dX8_late_83 : decode cX8_late 83 = .ok (.lstore 13, 2) := by decide +kernel
theorem dX8_late_85 : decode cX8_late 85 = .ok (.iconst 0, 1) := by decide +kernel
theorem dX8_late_86 : decode cX8_late 86 = .ok (.istore 15, 2) := by decide +kernel
theorem dX8_late_88 : decode cX8_late 88 = .ok (.iload 15, 2) := by decide +kernel
theorem dX8_late_90 : decode cX8_late 90 = .ok (.iload_n 3, 1) := by decide +kernel
theorem dX8_late_91 : decode cX8_late 91 = .ok (.if_icmp .ge 31, 3) := by decide +kernel
theorem dX8_late_94 : decode cX8_late 94 = .ok (.lload 13, 2) := by decide +kernel
theorem dX8_late_96 : decode cX8_late 96 = .ok (.iload 15, 2) := by decide +kernel
theorem dX8_late_98 : decode cX8_late 98 = .ok (.iload 12, 2) := by decide +kernel
theorem dX8_late_100 : decode cX8_late 100 = .ok (.if_icmp .ge 8, 3) := by decide +kernel
theorem dX8_late_103 : decode cX8_late 103 = .ok (.iload_n 2, 1) := by decide +kernel
theorem dX8_late_104 : decode cX8_late 104 = .ok (.i2l, 1) := by decide +kernel
theorem dX8_late_105 : decode cX8_late 105 = .ok (.goto 8, 3) := by decide +kernel
theorem dX8_late_108 : decode cX8_late 108 = .ok (.bipush 10, 2) := by decide +kernel
theorem dX8_late_110 : decode cX8_late 110 = .ok (.iload_n 2, 1) := by decide +kernel
theorem dX8_late_111 : decode cX8_late 111 = .ok (.isub, 1) := by decide +kernel
theorem dX8_late_112 : decode cX8_late 112 = .ok (.i2l, 1) := by decide +kernel
theorem dX8_late_113 : decode cX8_late 113 = .ok (.lmul, 1) := by decide +kernel
theorem dX8_late_114 : decode cX8_late 114 = .ok (.lstore 13, 2) := by decide +kernel
theorem dX8_late_116 : decode cX8_late 116 = .ok (.iinc 15 1, 3) := by decide +kernel
theorem dX8_late_119 : decode cX8_late 119 = .ok (.goto (-31), 3) := by decide +kernel
theorem dX8_late_122 : decode cX8_late 122 = .ok (.lload 6, 2) := by decide +kernel
theorem dX8_late_124 : decode cX8_late 124 = .ok (.aload_n 0, 1) := by decide +kernel
theorem dX8_late_125 : decode cX8_late 125 = .ok (.getfield 7, 3) := by decide +kernel
theorem dX8_late_128 : decode cX8_late 128 = .ok (.sipush 1587, 3) := by decide +kernel
theorem dX8_late_131 : decode cX8_late 131 = .ok (.iload_n 1, 1) := by decide +kernel
theorem dX8_late_132 : decode cX8_late 132 = .ok (.iadd, 1) := by decide +kernel
theorem dX8_late_133 : decode cX8_late 133 = .ok (.iaload, 1) := by decide +kernel
theorem dX8_late_134 : decode cX8_late 134 = .ok (.iload 4, 2) := by decide +kernel
theorem dX8_late_136 : decode cX8_late 136 = .ok (.if_icmp .ne 8, 3) := by decide +kernel
theorem dX8_late_139 : decode cX8_late 139 = .ok (.lload 13, 2) := by decide +kernel
theorem dX8_late_141 : decode cX8_late 141 = .ok (.goto 4, 3) := by decide +kernel
theorem dX8_late_144 : decode cX8_late 144 = .ok (.lconst 0, 1) := by decide +kernel
theorem dX8_late_145 : decode cX8_late 145 = .ok (.ladd, 1) := by decide +kernel
theorem dX8_late_146 : decode cX8_late 146 = .ok (.lstore 6, 2) := by decide +kernel
theorem dX8_late_148 : decode cX8_late 148 = .ok (.lload 8, 2) := by decide +kernel
theorem dX8_late_150 : decode cX8_late 150 = .ok (.iload 12, 2) := by decide +kernel
theorem dX8_late_152 : decode cX8_late 152 = .ok (.iload_n 3, 1) := by decide +kernel
theorem dX8_late_153 : decode cX8_late 153 = .ok (.if_icmp .ge 9, 3) := by decide +kernel
theorem dX8_late_156 : decode cX8_late 156 = .ok (.ldc2_w 193, 3) := by decide +kernel
theorem dX8_late_159 : decode cX8_late 159 = .ok (.goto 4, 3) := by decide +kernel
theorem dX8_late_162 : decode cX8_late 162 = .ok (.lconst 1, 1) := by decide +kernel
theorem dX8_late_163 : decode cX8_late 163 = .ok (.lmul, 1) := by decide +kernel
theorem dX8_late_164 : decode cX8_late 164 = .ok (.lstore 8, 2) := by decide +kernel
theorem dX8_late_166 : decode cX8_late 166 = .ok (.lload 10, 2) := by decide +kernel
theorem dX8_late_168 : decode cX8_late 168 = .ok (.iload_n 3, 1) := by decide +kernel
theorem dX8_late_169 : decode cX8_late 169 = .ok (.iload 12, 2) := by decide +kernel
theorem dX8_late_171 : decode cX8_late 171 = .ok (.isub, 1) := by decide +kernel
theorem dX8_late_172 : decode cX8_late 172 = .ok (.i2l, 1) := by decide +kernel
theorem dX8_late_173 : decode cX8_late 173 = .ok (.lmul, 1) := by decide +kernel
theorem dX8_late_174 : decode cX8_late 174 = .ok (.iload 12, 2) := by decide +kernel
theorem dX8_late_176 : decode cX8_late 176 = .ok (.iconst 1, 1) := by decide +kernel
theorem dX8_late_177 : decode cX8_late 177 = .ok (.iadd, 1) := by decide +kernel
theorem dX8_late_178 : decode cX8_late 178 = .ok (.i2l, 1) := by decide +kernel
theorem dX8_late_179 : decode cX8_late 179 = .ok (.ldiv, 1) := by decide +kernel
theorem dX8_late_180 : decode cX8_late 180 = .ok (.lstore 10, 2) := by decide +kernel
theorem dX8_late_182 : decode cX8_late 182 = .ok (.aload_n 0, 1) := by decide +kernel
theorem dX8_late_183 : decode cX8_late 183 = .ok (.bipush 27, 2) := by decide +kernel
theorem dX8_late_185 : decode cX8_late 185 = .ok (.iload_n 1, 1) := by decide +kernel
theorem dX8_late_186 : decode cX8_late 186 = .ok (.invokevirtual 139, 3) := by decide +kernel
theorem dX8_late_189 : decode cX8_late 189 = .ok (.iinc 12 1, 3) := by decide +kernel
theorem dX8_late_192 : decode cX8_late 192 = .ok (.goto (-117), 3) := by decide +kernel
theorem dX8_late_195 : decode cX8_late 195 = .ok (.lload 6, 2) := by decide +kernel
theorem dX8_late_197 : decode cX8_late 197 = .ok (.lstore 12, 2) := by decide +kernel
theorem dX8_late_199 : decode cX8_late 199 = .ok (.lload 8, 2) := by decide +kernel
theorem dX8_late_201 : decode cX8_late 201 = .ok (.lstore 14, 2) := by decide +kernel
theorem dX8_late_203 : decode cX8_late 203 = .ok (.lload 14, 2) := by decide +kernel
theorem dX8_late_205 : decode cX8_late 205 = .ok (.lconst 0, 1) := by decide +kernel
theorem dX8_late_206 : decode cX8_late 206 = .ok (.lcmp, 1) := by decide +kernel
theorem dX8_late_207 : decode cX8_late 207 = .ok (.ifCond .eq 21, 3) := by decide +kernel
theorem dX8_late_210 : decode cX8_late 210 = .ok (.lload 12, 2) := by decide +kernel
theorem dX8_late_212 : decode cX8_late 212 = .ok (.lload 14, 2) := by decide +kernel
theorem dX8_late_214 : decode cX8_late 214 = .ok (.lrem, 1) := by decide +kernel
theorem dX8_late_215 : decode cX8_late 215 = .ok (.lstore 16, 2) := by decide +kernel
theorem dX8_late_217 : decode cX8_late 217 = .ok (.lload 14, 2) := by decide +kernel
theorem dX8_late_219 : decode cX8_late 219 = .ok (.lstore 12, 2) := by decide +kernel
theorem dX8_late_221 : decode cX8_late 221 = .ok (.lload 16, 2) := by decide +kernel
theorem dX8_late_223 : decode cX8_late 223 = .ok (.lstore 14, 2) := by decide +kernel
theorem dX8_late_225 : decode cX8_late 225 = .ok (.goto (-22), 3) := by decide +kernel
theorem dX8_late_228 : decode cX8_late 228 = .ok (.iload 5, 2) := by decide +kernel
theorem dX8_late_230 : decode cX8_late 230 = .ok (.ifCond .ne 11, 3) := by decide +kernel
theorem dX8_late_233 : decode cX8_late 233 = .ok (.lload 6, 2) := by decide +kernel
theorem dX8_late_235 : decode cX8_late 235 = .ok (.lload 12, 2) := by decide +kernel
theorem dX8_late_237 : decode cX8_late 237 = .ok (.ldiv, 1) := by decide +kernel
theorem dX8_late_238 : decode cX8_late 238 = .ok (.goto 8, 3) := by decide +kernel
theorem dX8_late_241 : decode cX8_late 241 = .ok (.lload 8, 2) := by decide +kernel
theorem dX8_late_243 : decode cX8_late 243 = .ok (.lload 12, 2) := by decide +kernel
theorem dX8_late_245 : decode cX8_late 245 = .ok (.ldiv, 1) := by decide +kernel
theorem dX8_late_246 : decode cX8_late 246 = .ok (.lreturn, 1) := by decide +kernel
theorem lq_X8_year_0 {w : Cond} (h : w ∈ (wsX8_year_r1 : List Cond)) : w ∈ wsX8_year := List.mem_cons_of_mem _ (List.mem_append_left _ (List.mem_append_left _ (h)))
theorem lq_X8_year_1 {w : Cond} (h : w ∈ (wsX8_year_r2 : List Cond)) : w ∈ wsX8_year := List.mem_cons_of_mem _ (List.mem_append_left _ (List.mem_append_right _ (h)))
theorem lt_X8_year_X8 : ∀ w ∈ wsX80, w ∈ wsX8_year := fun _ h => List.mem_cons_of_mem _ (List.mem_append_right _ (h))
set_option maxRecDepth 20000 in
theorem ggX8_year_X8_in : GoodIn wsX8_year wsX8_in := goodIn_sub (List.forall_mem_cons.mpr ⟨lq_X8_year_0 (List.mem_of_getElem? (i := 10) rfl), (show ∀ w ∈ ([] : List Cond), w ∈ wsX8_year from fun _ h => absurd h List.not_mem_nil)⟩) (by decide +kernel)
set_option maxRecDepth 20000 in
theorem gX8_year_X8_in : GoodIn wsX8_year (va_wsS RX8 42 yX8_in wsX8_in) := goodIn_app (goodIn_sub (List.forall_mem_cons.mpr ⟨lq_X8_year_0 (List.mem_of_getElem? (i := 7) rfl), List.forall_mem_cons.mpr ⟨lq_X8_year_0 (List.mem_of_getElem? (i := 8) rfl), List.forall_mem_cons.mpr ⟨lq_X8_year_0 (List.mem_of_getElem? (i := 9) rfl), fun _ h => absurd h List.not_mem_nil⟩⟩⟩) (by decide +kernel)) ggX8_year_X8_in
set_option maxRecDepth 20000 in
theorem ggX8_year_X8_copies : GoodIn wsX8_year wsX8_copies := goodIn_sub (List.forall_mem_cons.mpr ⟨lq_X8_year_0 (List.mem_of_getElem? (i := 14) rfl), (List.forall_mem_append.mpr ⟨(show ∀ w ∈ ([.fieldLink RX8 7 "WinterWalkModel" "slot" "[I"] : List Cond), w ∈ wsX8_year from List.forall_mem_cons.mpr ⟨lq_X8_year_0 (List.mem_of_getElem? (i := 0) rfl), fun _ h => absurd h List.not_mem_nil⟩), lt_X8_year_X8⟩)⟩) (by decide +kernel)
set_option maxRecDepth 20000 in
theorem gX8_year_X8_copies : GoodIn wsX8_year (wsV RX8 114 RX8 yX8_copies wsX8_copies) := goodIn_app (goodIn_sub (List.forall_mem_cons.mpr ⟨lq_X8_year_0 (List.mem_of_getElem? (i := 11) rfl), List.forall_mem_cons.mpr ⟨lq_X8_year_0 (List.mem_of_getElem? (i := 12) rfl), List.forall_mem_cons.mpr ⟨lq_X8_year_0 (List.mem_of_getElem? (i := 13) rfl), List.forall_mem_cons.mpr ⟨lq_X8_year_0 (List.mem_of_getElem? (i := 9) rfl), fun _ h => absurd h List.not_mem_nil⟩⟩⟩⟩) (by decide +kernel)) ggX8_year_X8_copies
set_option maxRecDepth 20000 in
theorem ggX8_year_X8_day : GoodIn wsX8_year wsX8_day := goodIn_sub (List.forall_mem_cons.mpr ⟨lq_X8_year_0 (List.mem_of_getElem? (i := 18) rfl), (List.forall_mem_append.mpr ⟨(List.forall_mem_append.mpr ⟨(show ∀ w ∈ (wsX8_day_r1 : List Cond), w ∈ wsX8_year from List.forall_mem_cons.mpr ⟨lq_X8_year_0 (List.mem_of_getElem? (i := 0) rfl), List.forall_mem_cons.mpr ⟨lq_X8_year_0 (List.mem_of_getElem? (i := 19) rfl), List.forall_mem_cons.mpr ⟨lq_X8_year_0 (List.mem_of_getElem? (i := 20) rfl), List.forall_mem_cons.mpr ⟨lq_X8_year_0 (List.mem_of_getElem? (i := 21) rfl), List.forall_mem_cons.mpr ⟨lq_X8_year_0 (List.mem_of_getElem? (i := 9) rfl), List.forall_mem_cons.mpr ⟨lq_X8_year_0 (List.mem_of_getElem? (i := 22) rfl), List.forall_mem_cons.mpr ⟨lq_X8_year_0 (List.mem_of_getElem? (i := 23) rfl), List.forall_mem_cons.mpr ⟨lq_X8_year_1 (List.mem_of_getElem? (i := 0) rfl), List.forall_mem_cons.mpr ⟨lq_X8_year_1 (List.mem_of_getElem? (i := 1) rfl), List.forall_mem_cons.mpr ⟨lq_X8_year_1 (List.mem_of_getElem? (i := 2) rfl), List.forall_mem_cons.mpr ⟨lq_X8_year_1 (List.mem_of_getElem? (i := 3) rfl), List.forall_mem_cons.mpr ⟨lq_X8_year_1 (List.mem_of_getElem? (i := 4) rfl), List.forall_mem_cons.mpr ⟨lq_X8_year_1 (List.mem_of_getElem? (i := 5) rfl), List.forall_mem_cons.mpr ⟨lq_X8_year_1 (List.mem_of_getElem? (i := 6) rfl), List.forall_mem_cons.mpr ⟨lq_X8_year_1 (List.mem_of_getElem? (i := 7) rfl), List.forall_mem_cons.mpr ⟨lq_X8_year_1 (List.mem_of_getElem? (i := 8) rfl), List.forall_mem_cons.mpr ⟨lq_X8_year_1 (List.mem_of_getElem? (i := 9) rfl), List.forall_mem_cons.mpr ⟨lq_X8_year_1 (List.mem_of_getElem? (i := 10) rfl), List.forall_mem_cons.mpr ⟨lq_X8_year_1 (List.mem_of_getElem? (i := 11) rfl), List.forall_mem_cons.mpr ⟨lq_X8_year_1 (List.mem_of_getElem? (i := 12) rfl), List.forall_mem_cons.mpr ⟨lq_X8_year_1 (List.mem_of_getElem? (i := 13) rfl), List.forall_mem_cons.mpr ⟨lq_X8_year_1 (List.mem_of_getElem? (i := 14) rfl), List.forall_mem_cons.mpr ⟨lq_X8_year_1 (List.mem_of_getElem? (i := 15) rfl), List.forall_mem_cons.mpr ⟨lq_X8_year_1 (List.mem_of_getElem? (i := 16) rfl), fun _ h => absurd h List.not_mem_nil⟩⟩⟩⟩⟩⟩⟩⟩⟩⟩⟩⟩⟩⟩⟩⟩⟩⟩⟩⟩⟩⟩⟩⟩), (show ∀ w ∈ (wsX8_day_r2 : List Cond), w ∈ wsX8_year from List.forall_mem_cons.mpr ⟨lq_X8_year_1 (List.mem_of_getElem? (i := 17) rfl), fun _ h => absurd h List.not_mem_nil⟩)⟩), lt_X8_year_X8⟩)⟩) (by decide +kernel)
set_option maxRecDepth 20000 in
theorem gX8_year_X8_day : GoodIn wsX8_year (wsV RX8 139 RX8 yX8_day wsX8_day) := goodIn_app (goodIn_sub (List.forall_mem_cons.mpr ⟨lq_X8_year_0 (List.mem_of_getElem? (i := 15) rfl), List.forall_mem_cons.mpr ⟨lq_X8_year_0 (List.mem_of_getElem? (i := 16) rfl), List.forall_mem_cons.mpr ⟨lq_X8_year_0 (List.mem_of_getElem? (i := 17) rfl), List.forall_mem_cons.mpr ⟨lq_X8_year_0 (List.mem_of_getElem? (i := 9) rfl), fun _ h => absurd h List.not_mem_nil⟩⟩⟩⟩) (by decide +kernel)) ggX8_year_X8_day
theorem dX8_year_0 : decode cX8_year 0 = .ok (.aload_n 0, 1) := by decide +kernel
theorem dX8_year_1 : decode cX8_year 1 = .ok (.getfield 7, 3) := by decide +kernel
theorem dX8_year_4 : decode cX8_year 4 = .ok (.iconst 1, 1) := by decide +kernel
theorem dX8_year_5 : decode cX8_year 5 = .ok (.iaload, 1) := by decide +kernel
theorem dX8_year_6 : decode cX8_year 6 = .ok (.ifCond .ne 6, 3) := by decide +kernel
theorem dX8_year_9 : decode cX8_year 9 = .ok (.ldc 121, 2) := by decide +kernel
theorem dX8_year_11 : decode cX8_year 11 = .ok (.ireturn, 1) := by decide +kernel
theorem dX8_year_12 : decode cX8_year 12 = .ok (.iload_n 1, 1) := by decide +kernel
theorem dX8_year_13 : decode cX8_year 13 = .ok (.i2l, 1) := by decide +kernel
theorem dX8_year_14 : decode cX8_year 14 = .ok (.lconst 0, 1) := by decide +kernel
theorem dX8_year_15 : decode cX8_year 15 = .ok (.ldc2_w 160, 3) := by decide +kernel
theorem dX8_year_18 : decode cX8_year 18 = .ok (.invokestatic 42, 3) := by decide +kernel
theorem dX8_year_21 : decode cX8_year 21 = .ok (.ifCond .eq 25, 3) := by decide +kernel
theorem dX8_year_24 : decode cX8_year 24 = .ok (.iload_n 2, 1) := by decide +kernel
theorem dX8_year_25 : decode cX8_year 25 = .ok (.i2l, 1) := by decide +kernel
theorem dX8_year_26 : decode cX8_year 26 = .ok (.lconst 1, 1) := by decide +kernel
theorem dX8_year_27 : decode cX8_year 27 = .ok (.ldc2_w 199, 3) := by decide +kernel
theorem dX8_year_30 : decode cX8_year 30 = .ok (.invokestatic 42, 3) := by decide +kernel
theorem dX8_year_33 : decode cX8_year 33 = .ok (.ifCond .eq 13, 3) := by decide +kernel
theorem dX8_year_36 : decode cX8_year 36 = .ok (.iload_n 3, 1) := by decide +kernel
theorem dX8_year_37 : decode cX8_year 37 = .ok (.i2l, 1) := by decide +kernel
theorem dX8_year_38 : decode cX8_year 38 = .ok (.lconst 0, 1) := by decide +kernel
theorem dX8_year_39 : decode cX8_year 39 = .ok (.lconst 1, 1) := by decide +kernel
theorem dX8_year_40 : decode cX8_year 40 = .ok (.invokestatic 42, 3) := by decide +kernel
theorem dX8_year_43 : decode cX8_year 43 = .ok (.ifCond .ne 6, 3) := by decide +kernel
theorem dX8_year_46 : decode cX8_year 46 = .ok (.ldc 48, 2) := by decide +kernel
theorem dX8_year_48 : decode cX8_year 48 = .ok (.ireturn, 1) := by decide +kernel
theorem dX8_year_49 : decode cX8_year 49 = .ok (.aload_n 0, 1) := by decide +kernel
theorem dX8_year_50 : decode cX8_year 50 = .ok (.iconst 0, 1) := by decide +kernel
theorem dX8_year_51 : decode cX8_year 51 = .ok (.bipush 27, 2) := by decide +kernel
theorem dX8_year_53 : decode cX8_year 53 = .ok (.invokevirtual 114, 3) := by decide +kernel
theorem dX8_year_56 : decode cX8_year 56 = .ok (.iload_n 2, 1) := by decide +kernel
theorem dX8_year_57 : decode cX8_year 57 = .ok (.i2l, 1) := by decide +kernel
theorem dX8_year_58 : decode cX8_year 58 = .ok (.lstore 4, 2) := by decide +kernel
theorem dX8_year_60 : decode cX8_year 60 = .ok (.iconst 0, 1) := by decide +kernel
theorem dX8_year_61 : decode cX8_year 61 = .ok (.istore 6, 2) := by decide +kernel
theorem dX8_year_63 : decode cX8_year 63 = .ok (.iload 6, 2) := by decide +kernel
theorem dX8_year_65 : decode cX8_year 65 = .ok (.iload_n 1, 1) := by decide +kernel
theorem dX8_year_66 : decode cX8_year 66 = .ok (.if_icmp .ge 69, 3) := by decide +kernel
theorem dX8_year_69 : decode cX8_year 69 = .ok (.lload 4, 2) := by decide +kernel
theorem dX8_year_71 : decode cX8_year 71 = .ok (.ldc2_w 201, 3) := by decide +kernel
theorem dX8_year_74 : decode cX8_year 74 = .ok (.lmul, 1) := by decide +kernel
theorem dX8_year_75 : decode cX8_year 75 = .ok (.ldc2_w 203, 3) := by decide +kernel
theorem dX8_year_78 : decode cX8_year 78 = .ok (.lrem, 1) := by decide +kernel
theorem dX8_year_79 : decode cX8_year 79 = .ok (.lstore 4, 2) := by decide +kernel
theorem dX8_year_81 : decode cX8_year 81 = .ok (.iconst 1, 1) := by decide +kernel
theorem dX8_year_82 : decode cX8_year 82 = .ok (.lload 4, 2) := by decide +kernel
theorem dX8_year_84 : decode cX8_year 84 = .ok (.aload_n 0, 1) := by decide +kernel
theorem dX8_year_85 : decode cX8_year 85 = .ok (.getfield 7, 3) := by decide +kernel
theorem dX8_year_88 : decode cX8_year 88 = .ok (.iconst 1, 1) := by decide +kernel
theorem dX8_year_89 : decode cX8_year 89 = .ok (.iaload, 1) := by decide +kernel
theorem dX8_year_90 : decode cX8_year 90 = .ok (.i2l, 1) := by decide +kernel
theorem dX8_year_91 : decode cX8_year 91 = .ok (.lrem, 1) := by decide +kernel
theorem dX8_year_92 : decode cX8_year 92 = .ok (.l2i, 1) := by decide +kernel
theorem dX8_year_93 : decode cX8_year 93 = .ok (.ishl, 1) := by decide +kernel
theorem dX8_year_94 : decode cX8_year 94 = .ok (.istore 7, 2) := by decide +kernel
theorem dX8_year_96 : decode cX8_year 96 = .ok (.aload_n 0, 1) := by decide +kernel
theorem dX8_year_97 : decode cX8_year 97 = .ok (.getfield 7, 3) := by decide +kernel
theorem dX8_year_100 : decode cX8_year 100 = .ok (.sipush 1570, 3) := by decide +kernel
theorem dX8_year_103 : decode cX8_year 103 = .ok (.dup2, 1) := by decide +kernel
theorem dX8_year_104 : decode cX8_year 104 = .ok (.iaload, 1) := by decide +kernel
theorem dX8_year_105 : decode cX8_year 105 = .ok (.iload 7, 2) := by decide +kernel
theorem dX8_year_107 : decode cX8_year 107 = .ok (.ixor, 1) := by decide +kernel
theorem dX8_year_108 : decode cX8_year 108 = .ok (.iastore, 1) := by decide +kernel
theorem dX8_year_109 : decode cX8_year 109 = .ok (.aload_n 0, 1) := by decide +kernel
theorem dX8_year_110 : decode cX8_year 110 = .ok (.bipush 27, 2) := by decide +kernel
theorem dX8_year_112 : decode cX8_year 112 = .ok (.iconst (-1), 1) := by decide +kernel
theorem dX8_year_113 : decode cX8_year 113 = .ok (.invokevirtual 139, 3) := by decide +kernel
theorem dX8_year_116 : decode cX8_year 116 = .ok (.aload_n 0, 1) := by decide +kernel
theorem dX8_year_117 : decode cX8_year 117 = .ok (.getfield 7, 3) := by decide +kernel
theorem dX8_year_120 : decode cX8_year 120 = .ok (.sipush 1570, 3) := by decide +kernel
theorem dX8_year_123 : decode cX8_year 123 = .ok (.dup2, 1) := by decide +kernel
theorem dX8_year_124 : decode cX8_year 124 = .ok (.iaload, 1) := by decide +kernel
theorem dX8_year_125 : decode cX8_year 125 = .ok (.iload 7, 2) := by decide +kernel
theorem dX8_year_127 : decode cX8_year 127 = .ok (.ixor, 1) := by decide +kernel
theorem dX8_year_128 : decode cX8_year 128 = .ok (.iastore, 1) := by decide +kernel
theorem dX8_year_129 : decode cX8_year 129 = .ok (.iinc 6 1, 3) := by decide +kernel
theorem dX8_year_132 : decode cX8_year 132 = .ok (.goto (-69), 3) := by decide +kernel
theorem dX8_year_135 : decode cX8_year 135 = .ok (.iconst 0, 1) := by decide +kernel
theorem dX8_year_136 : decode cX8_year 136 = .ok (.istore 6, 2) := by decide +kernel
theorem dX8_year_138 : decode cX8_year 138 = .ok (.iconst 1, 1) := by decide +kernel
theorem dX8_year_139 : decode cX8_year 139 = .ok (.istore 7, 2) := by decide +kernel
theorem dX8_year_141 : decode cX8_year 141 = .ok (.iload 7, 2) := by decide +kernel
theorem dX8_year_143 : decode cX8_year 143 = .ok (.aload_n 0, 1) := by decide +kernel
theorem dX8_year_144 : decode cX8_year 144 = .ok (.getfield 7, 3) := by decide +kernel
theorem dX8_year_147 : decode cX8_year 147 = .ok (.iconst 1, 1) := by decide +kernel
theorem dX8_year_148 : decode cX8_year 148 = .ok (.iaload, 1) := by decide +kernel
theorem dX8_year_149 : decode cX8_year 149 = .ok (.if_icmp .ge 43, 3) := by decide +kernel
theorem dX8_year_152 : decode cX8_year 152 = .ok (.aload_n 0, 1) := by decide +kernel
theorem dX8_year_153 : decode cX8_year 153 = .ok (.getfield 7, 3) := by decide +kernel
theorem dX8_year_156 : decode cX8_year 156 = .ok (.sipush 1579, 3) := by decide +kernel
theorem dX8_year_159 : decode cX8_year 159 = .ok (.iload 7, 2) := by decide +kernel
theorem dX8_year_161 : decode cX8_year 161 = .ok (.iadd, 1) := by decide +kernel
theorem dX8_year_162 : decode cX8_year 162 = .ok (.iaload, 1) := by decide +kernel
theorem dX8_year_163 : decode cX8_year 163 = .ok (.aload_n 0, 1) := by decide +kernel
theorem dX8_year_164 : decode cX8_year 164 = .ok (.getfield 7, 3) := by decide +kernel
theorem dX8_year_167 : decode cX8_year 167 = .ok (.sipush 1579, 3) := by decide +kernel
theorem dX8_year_170 : decode cX8_year 170 = .ok (.iload 6, 2) := by decide +kernel
theorem dX8_year_172 : decode cX8_year 172 = .ok (.iadd, 1) := by decide +kernel
theorem dX8_year_173 : decode cX8_year 173 = .ok (.iaload, 1) := by decide +kernel
theorem dX8_year_174 : decode cX8_year 174 = .ok (.if_icmp .le 8, 3) := by decide +kernel
theorem dX8_year_177 : decode cX8_year 177 = .ok (.iload 7, 2) := by decide +kernel
theorem dX8_year_179 : decode cX8_year 179 = .ok (.goto 5, 3) := by decide +kernel
theorem dX8_year_182 : decode cX8_year 182 = .ok (.iload 6, 2) := by decide +kernel
theorem dX8_year_184 : decode cX8_year 184 = .ok (.istore 6, 2) := by decide +kernel
theorem dX8_year_186 : decode cX8_year 186 = .ok (.iinc 7 1, 3) := by decide +kernel
theorem dX8_year_189 : decode cX8_year 189 = .ok (.goto (-48), 3) := by decide +kernel
theorem dX8_year_192 : decode cX8_year 192 = .ok (.iload_n 3, 1) := by decide +kernel
theorem dX8_year_193 : decode cX8_year 193 = .ok (.ifCond .ne 22, 3) := by decide +kernel
theorem dX8_year_196 : decode cX8_year 196 = .ok (.aload_n 0, 1) := by decide +kernel
theorem dX8_year_197 : decode cX8_year 197 = .ok (.getfield 7, 3) := by decide +kernel
theorem dX8_year_200 : decode cX8_year 200 = .ok (.sipush 1594, 3) := by decide +kernel
theorem dX8_year_203 : decode cX8_year 203 = .ok (.iaload, 1) := by decide +kernel
theorem dX8_year_204 : decode cX8_year 204 = .ok (.aload_n 0, 1) := by decide +kernel
theorem dX8_year_205 : decode cX8_year 205 = .ok (.getfield 7, 3) := by decide +kernel
theorem dX8_year_208 : decode cX8_year 208 = .ok (.bipush 55, 2) := by decide +kernel
theorem dX8_year_210 : decode cX8_year 210 = .ok (.iaload, 1) := by decide +kernel
theorem dX8_year_211 : decode cX8_year 211 = .ok (.isub, 1) := by decide +kernel
theorem dX8_year_212 : decode cX8_year 212 = .ok (.goto 5, 3) := by decide +kernel
theorem dX8_year_215 : decode cX8_year 215 = .ok (.iload 6, 2) := by decide +kernel
theorem dX8_year_217 : decode cX8_year 217 = .ok (.ireturn, 1) := by decide +kernel
theorem lq_X8_image_0 {w : Cond} (h : w ∈ ([.constant RX8 48 (-1000001), .fieldLink RX8 7 "WinterWalkModel" "slot" "[I", .constant RX8 121 (-1000002), .methodLink RX8 42 yX8_in, .static yX8_in, .initialized RX8, .code yX8_in cX8_in 6 (some .boolean), .methodLink RX8 114 yX8_copies, .instanceMethod yX8_copies, .selects RX8 yX8_copies yX8_copies, .code yX8_copies cX8_copies 4 none] : List Cond)) : w ∈ wsX8_image := List.mem_cons_of_mem _ (List.mem_append_left _ (h))
theorem lt_X8_image_X8 : ∀ w ∈ wsX80, w ∈ wsX8_image := fun _ h => List.mem_cons_of_mem _ (List.mem_append_right _ (h))
set_option maxRecDepth 20000 in
theorem ggX8_image_X8_in : GoodIn wsX8_image wsX8_in := goodIn_sub (List.forall_mem_cons.mpr ⟨lq_X8_image_0 (List.mem_of_getElem? (i := 6) rfl), (show ∀ w ∈ ([] : List Cond), w ∈ wsX8_image from fun _ h => absurd h List.not_mem_nil)⟩) (by decide +kernel)
set_option maxRecDepth 20000 in
theorem gX8_image_X8_in : GoodIn wsX8_image (va_wsS RX8 42 yX8_in wsX8_in) := goodIn_app (goodIn_sub (List.forall_mem_cons.mpr ⟨lq_X8_image_0 (List.mem_of_getElem? (i := 3) rfl), List.forall_mem_cons.mpr ⟨lq_X8_image_0 (List.mem_of_getElem? (i := 4) rfl), List.forall_mem_cons.mpr ⟨lq_X8_image_0 (List.mem_of_getElem? (i := 5) rfl), fun _ h => absurd h List.not_mem_nil⟩⟩⟩) (by decide +kernel)) ggX8_image_X8_in
set_option maxRecDepth 20000 in
theorem ggX8_image_X8_copies : GoodIn wsX8_image wsX8_copies := goodIn_sub (List.forall_mem_cons.mpr ⟨lq_X8_image_0 (List.mem_of_getElem? (i := 10) rfl), (List.forall_mem_append.mpr ⟨(show ∀ w ∈ ([.fieldLink RX8 7 "WinterWalkModel" "slot" "[I"] : List Cond), w ∈ wsX8_image from List.forall_mem_cons.mpr ⟨lq_X8_image_0 (List.mem_of_getElem? (i := 1) rfl), fun _ h => absurd h List.not_mem_nil⟩), lt_X8_image_X8⟩)⟩) (by decide +kernel)
set_option maxRecDepth 20000 in
theorem gX8_image_X8_copies : GoodIn wsX8_image (wsV RX8 114 RX8 yX8_copies wsX8_copies) := goodIn_app (goodIn_sub (List.forall_mem_cons.mpr ⟨lq_X8_image_0 (List.mem_of_getElem? (i := 7) rfl), List.forall_mem_cons.mpr ⟨lq_X8_image_0 (List.mem_of_getElem? (i := 8) rfl), List.forall_mem_cons.mpr ⟨lq_X8_image_0 (List.mem_of_getElem? (i := 9) rfl), List.forall_mem_cons.mpr ⟨lq_X8_image_0 (List.mem_of_getElem? (i := 5) rfl), fun _ h => absurd h List.not_mem_nil⟩⟩⟩⟩) (by decide +kernel)) ggX8_image_X8_copies
theorem dX8_image_0 : decode cX8_image 0 = .ok (.iload_n 1, 1) := by decide +kernel
theorem dX8_image_1 : decode cX8_image 1 = .ok (.i2l, 1) := by decide +kernel
theorem dX8_image_2 : decode cX8_image 2 = .ok (.lconst 0, 1) := by decide +kernel
theorem dX8_image_3 : decode cX8_image 3 = .ok (.lconst 1, 1) := by decide +kernel
theorem dX8_image_4 : decode cX8_image 4 = .ok (.invokestatic 42, 3) := by decide +kernel
theorem dX8_image_7 : decode cX8_image 7 = .ok (.ifCond .ne 6, 3) := by decide +kernel
theorem dX8_image_10 : decode cX8_image 10 = .ok (.ldc 48, 2) := by decide +kernel
theorem dX8_image_12 : decode cX8_image 12 = .ok (.ireturn, 1) := by decide +kernel
theorem dX8_image_13 : decode cX8_image 13 = .ok (.aload_n 0, 1) := by decide +kernel
theorem dX8_image_14 : decode cX8_image 14 = .ok (.getfield 7, 3) := by decide +kernel
theorem dX8_image_17 : decode cX8_image 17 = .ok (.iconst 1, 1) := by decide +kernel
theorem dX8_image_18 : decode cX8_image 18 = .ok (.iaload, 1) := by decide +kernel
theorem dX8_image_19 : decode cX8_image 19 = .ok (.ifCond .ne 6, 3) := by decide +kernel
theorem dX8_image_22 : decode cX8_image 22 = .ok (.ldc 121, 2) := by decide +kernel
theorem dX8_image_24 : decode cX8_image 24 = .ok (.ireturn, 1) := by decide +kernel
theorem dX8_image_25 : decode cX8_image 25 = .ok (.aload_n 0, 1) := by decide +kernel
theorem dX8_image_26 : decode cX8_image 26 = .ok (.iconst 0, 1) := by decide +kernel
theorem dX8_image_27 : decode cX8_image 27 = .ok (.iload_n 1, 1) := by decide +kernel
theorem dX8_image_28 : decode cX8_image 28 = .ok (.iconst 1, 1) := by decide +kernel
theorem dX8_image_29 : decode cX8_image 29 = .ok (.iadd, 1) := by decide +kernel
theorem dX8_image_30 : decode cX8_image 30 = .ok (.invokevirtual 114, 3) := by decide +kernel
theorem dX8_image_33 : decode cX8_image 33 = .ok (.iconst 1, 1) := by decide +kernel
theorem dX8_image_34 : decode cX8_image 34 = .ok (.ireturn, 1) := by decide +kernel
theorem lq_X8_restore_0 {w : Cond} (h : w ∈ ([.constant RX8 48 (-1000001), .fieldLink RX8 7 "WinterWalkModel" "slot" "[I", .constant RX8 121 (-1000002), .fieldLink RX8 118 "WinterWalkModel" "acts" "I", .methodLink RX8 42 yX8_in, .static yX8_in, .initialized RX8, .code yX8_in cX8_in 6 (some .boolean), .methodLink RX8 114 yX8_copies, .instanceMethod yX8_copies, .selects RX8 yX8_copies yX8_copies, .code yX8_copies cX8_copies 4 none] : List Cond)) : w ∈ wsX8_restore := List.mem_cons_of_mem _ (List.mem_append_left _ (h))
theorem lt_X8_restore_X8 : ∀ w ∈ wsX80, w ∈ wsX8_restore := fun _ h => List.mem_cons_of_mem _ (List.mem_append_right _ (h))
set_option maxRecDepth 20000 in
theorem ggX8_restore_X8_in : GoodIn wsX8_restore wsX8_in := goodIn_sub (List.forall_mem_cons.mpr ⟨lq_X8_restore_0 (List.mem_of_getElem? (i := 7) rfl), (show ∀ w ∈ ([] : List Cond), w ∈ wsX8_restore from fun _ h => absurd h List.not_mem_nil)⟩) (by decide +kernel)
set_option maxRecDepth 20000 in
theorem gX8_restore_X8_in : GoodIn wsX8_restore (va_wsS RX8 42 yX8_in wsX8_in) := goodIn_app (goodIn_sub (List.forall_mem_cons.mpr ⟨lq_X8_restore_0 (List.mem_of_getElem? (i := 4) rfl), List.forall_mem_cons.mpr ⟨lq_X8_restore_0 (List.mem_of_getElem? (i := 5) rfl), List.forall_mem_cons.mpr ⟨lq_X8_restore_0 (List.mem_of_getElem? (i := 6) rfl), fun _ h => absurd h List.not_mem_nil⟩⟩⟩) (by decide +kernel)) ggX8_restore_X8_in
set_option maxRecDepth 20000 in
theorem ggX8_restore_X8_copies : GoodIn wsX8_restore wsX8_copies := goodIn_sub (List.forall_mem_cons.mpr ⟨lq_X8_restore_0 (List.mem_of_getElem? (i := 11) rfl), (List.forall_mem_append.mpr ⟨(show ∀ w ∈ ([.fieldLink RX8 7 "WinterWalkModel" "slot" "[I"] : List Cond), w ∈ wsX8_restore from List.forall_mem_cons.mpr ⟨lq_X8_restore_0 (List.mem_of_getElem? (i := 1) rfl), fun _ h => absurd h List.not_mem_nil⟩), lt_X8_restore_X8⟩)⟩) (by decide +kernel)
set_option maxRecDepth 20000 in
theorem gX8_restore_X8_copies : GoodIn wsX8_restore (wsV RX8 114 RX8 yX8_copies wsX8_copies) := goodIn_app (goodIn_sub (List.forall_mem_cons.mpr ⟨lq_X8_restore_0 (List.mem_of_getElem? (i := 8) rfl), List.forall_mem_cons.mpr ⟨lq_X8_restore_0 (List.mem_of_getElem? (i := 9) rfl), List.forall_mem_cons.mpr ⟨lq_X8_restore_0 (List.mem_of_getElem? (i := 10) rfl), List.forall_mem_cons.mpr ⟨lq_X8_restore_0 (List.mem_of_getElem? (i := 6) rfl), fun _ h => absurd h List.not_mem_nil⟩⟩⟩⟩) (by decide +kernel)) ggX8_restore_X8_copies
theorem dX8_restore_0 : decode cX8_restore 0 = .ok (.iload_n 1, 1) := by decide +kernel
theorem dX8_restore_1 : decode cX8_restore 1 = .ok (.i2l, 1) := by decide +kernel
theorem dX8_restore_2 : decode cX8_restore 2 = .ok (.lconst 0, 1) := by decide +kernel
theorem dX8_restore_3 : decode cX8_restore 3 = .ok (.lconst 1, 1) := by decide +kernel
theorem dX8_restore_4 : decode cX8_restore 4 = .ok (.invokestatic 42, 3) := by decide +kernel
theorem dX8_restore_7 : decode cX8_restore 7 = .ok (.ifCond .ne 6, 3) := by decide +kernel
theorem dX8_restore_10 : decode cX8_restore 10 = .ok (.ldc 48, 2) := by decide +kernel
theorem dX8_restore_12 : decode cX8_restore 12 = .ok (.ireturn, 1) := by decide +kernel
theorem dX8_restore_13 : decode cX8_restore 13 = .ok (.aload_n 0, 1) := by decide +kernel
theorem dX8_restore_14 : decode cX8_restore 14 = .ok (.getfield 7, 3) := by decide +kernel
theorem dX8_restore_17 : decode cX8_restore 17 = .ok (.iload_n 1, 1) := by decide +kernel
theorem dX8_restore_18 : decode cX8_restore 18 = .ok (.iconst 1, 1) := by decide +kernel
theorem dX8_restore_19 : decode cX8_restore 19 = .ok (.iadd, 1) := by decide +kernel
theorem dX8_restore_20 : decode cX8_restore 20 = .ok (.bipush 57, 2) := by decide +kernel
theorem dX8_restore_22 : decode cX8_restore 22 = .ok (.imul, 1) := by decide +kernel
theorem dX8_restore_23 : decode cX8_restore 23 = .ok (.iconst 1, 1) := by decide +kernel
theorem dX8_restore_24 : decode cX8_restore 24 = .ok (.iadd, 1) := by decide +kernel
theorem dX8_restore_25 : decode cX8_restore 25 = .ok (.iaload, 1) := by decide +kernel
theorem dX8_restore_26 : decode cX8_restore 26 = .ok (.ifCond .ne 6, 3) := by decide +kernel
theorem dX8_restore_29 : decode cX8_restore 29 = .ok (.ldc 121, 2) := by decide +kernel
theorem dX8_restore_31 : decode cX8_restore 31 = .ok (.ireturn, 1) := by decide +kernel
theorem dX8_restore_32 : decode cX8_restore 32 = .ok (.aload_n 0, 1) := by decide +kernel
theorem dX8_restore_33 : decode cX8_restore 33 = .ok (.iload_n 1, 1) := by decide +kernel
theorem dX8_restore_34 : decode cX8_restore 34 = .ok (.iconst 1, 1) := by decide +kernel
theorem dX8_restore_35 : decode cX8_restore 35 = .ok (.iadd, 1) := by decide +kernel
theorem dX8_restore_36 : decode cX8_restore 36 = .ok (.iconst 0, 1) := by decide +kernel
theorem dX8_restore_37 : decode cX8_restore 37 = .ok (.invokevirtual 114, 3) := by decide +kernel
theorem dX8_restore_40 : decode cX8_restore 40 = .ok (.aload_n 0, 1) := by decide +kernel
theorem dX8_restore_41 : decode cX8_restore 41 = .ok (.iconst 0, 1) := by decide +kernel
theorem dX8_restore_42 : decode cX8_restore 42 = .ok (.putfield 118, 3) := by decide +kernel
theorem dX8_restore_45 : decode cX8_restore 45 = .ok (.iconst 1, 1) := by decide +kernel
theorem dX8_restore_46 : decode cX8_restore 46 = .ok (.ireturn, 1) := by decide +kernel
theorem lq_X8_kind_0 {w : Cond} (h : w ∈ ([.fieldLink RX8 7 "WinterWalkModel" "slot" "[I", .constant RX8 48 (-1000001), .methodLink RX8 157 yX8_isWalkerThere, .instanceMethod yX8_isWalkerThere, .selects RX8 yX8_isWalkerThere yX8_isWalkerThere, .initialized RX8, .code yX8_isWalkerThere cX8_isWalkerThere 2 (some .boolean), .methodLink RX8 42 yX8_in, .static yX8_in, .code yX8_in cX8_in 6 (some .boolean)] : List Cond)) : w ∈ wsX8_kind := List.mem_cons_of_mem _ (List.mem_append_left _ (h))
theorem lt_X8_kind_X8 : ∀ w ∈ wsX80, w ∈ wsX8_kind := fun _ h => List.mem_cons_of_mem _ (List.mem_append_right _ (h))
set_option maxRecDepth 20000 in
theorem ggX8_kind_X8_isWalkerThere : GoodIn wsX8_kind wsX8_isWalkerThere := goodIn_sub (List.forall_mem_cons.mpr ⟨lq_X8_kind_0 (List.mem_of_getElem? (i := 6) rfl), (List.forall_mem_append.mpr ⟨(show ∀ w ∈ ([.fieldLink RX8 7 "WinterWalkModel" "slot" "[I", .methodLink RX8 42 yX8_in, .static yX8_in, .initialized RX8, .code yX8_in cX8_in 6 (some .boolean)] : List Cond), w ∈ wsX8_kind from List.forall_mem_cons.mpr ⟨lq_X8_kind_0 (List.mem_of_getElem? (i := 0) rfl), List.forall_mem_cons.mpr ⟨lq_X8_kind_0 (List.mem_of_getElem? (i := 7) rfl), List.forall_mem_cons.mpr ⟨lq_X8_kind_0 (List.mem_of_getElem? (i := 8) rfl), List.forall_mem_cons.mpr ⟨lq_X8_kind_0 (List.mem_of_getElem? (i := 5) rfl), List.forall_mem_cons.mpr ⟨lq_X8_kind_0 (List.mem_of_getElem? (i := 9) rfl), fun _ h => absurd h List.not_mem_nil⟩⟩⟩⟩⟩), lt_X8_kind_X8⟩)⟩) (by decide +kernel)
set_option maxRecDepth 20000 in
theorem gX8_kind_X8_isWalkerThere : GoodIn wsX8_kind (wsV RX8 157 RX8 yX8_isWalkerThere wsX8_isWalkerThere) := goodIn_app (goodIn_sub (List.forall_mem_cons.mpr ⟨lq_X8_kind_0 (List.mem_of_getElem? (i := 2) rfl), List.forall_mem_cons.mpr ⟨lq_X8_kind_0 (List.mem_of_getElem? (i := 3) rfl), List.forall_mem_cons.mpr ⟨lq_X8_kind_0 (List.mem_of_getElem? (i := 4) rfl), List.forall_mem_cons.mpr ⟨lq_X8_kind_0 (List.mem_of_getElem? (i := 5) rfl), fun _ h => absurd h List.not_mem_nil⟩⟩⟩⟩) (by decide +kernel)) ggX8_kind_X8_isWalkerThere
theorem dX8_kind_0 : decode cX8_kind 0 = .ok (.aload_n 0, 1) := by decide +kernel
theorem dX8_kind_1 : decode cX8_kind 1 = .ok (.iload_n 1, 1) := by decide +kernel
theorem dX8_kind_2 : decode cX8_kind 2 = .ok (.invokevirtual 157, 3) := by decide +kernel
theorem dX8_kind_5 : decode cX8_kind 5 = .ok (.ifCond .eq 15, 3) := by decide +kernel
theorem dX8_kind_8 : decode cX8_kind 8 = .ok (.aload_n 0, 1) := by decide +kernel
theorem dX8_kind_9 : decode cX8_kind 9 = .ok (.getfield 7, 3) := by decide +kernel
theorem dX8_kind_12 : decode cX8_kind 12 = .ok (.bipush 20, 2) := by decide +kernel
theorem dX8_kind_14 : decode cX8_kind 14 = .ok (.iload_n 1, 1) := by decide +kernel
theorem dX8_kind_15 : decode cX8_kind 15 = .ok (.iadd, 1) := by decide +kernel
theorem dX8_kind_16 : decode cX8_kind 16 = .ok (.iaload, 1) := by decide +kernel
theorem dX8_kind_17 : decode cX8_kind 17 = .ok (.goto 5, 3) := by decide +kernel
theorem dX8_kind_20 : decode cX8_kind 20 = .ok (.ldc 48, 2) := by decide +kernel
theorem dX8_kind_22 : decode cX8_kind 22 = .ok (.ireturn, 1) := by decide +kernel
theorem dX8_isKind_0 : decode cX8_isKind 0 = .ok (.iload_n 1, 1) := by decide +kernel
theorem dX8_isKind_1 : decode cX8_isKind 1 = .ok (.ifCond .eq 28, 3) := by decide +kernel
theorem dX8_isKind_4 : decode cX8_isKind 4 = .ok (.iload_n 0, 1) := by decide +kernel
theorem dX8_isKind_5 : decode cX8_isKind 5 = .ok (.iload_n 1, 1) := by decide +kernel
theorem dX8_isKind_6 : decode cX8_isKind 6 = .ok (.if_icmp .eq 23, 3) := by decide +kernel
theorem dX8_isKind_9 : decode cX8_isKind 9 = .ok (.iload_n 1, 1) := by decide +kernel
theorem dX8_isKind_10 : decode cX8_isKind 10 = .ok (.iconst 1, 1) := by decide +kernel
theorem dX8_isKind_11 : decode cX8_isKind 11 = .ok (.if_icmp .ne 8, 3) := by decide +kernel
theorem dX8_isKind_14 : decode cX8_isKind 14 = .ok (.iload_n 0, 1) := by decide +kernel
theorem dX8_isKind_15 : decode cX8_isKind 15 = .ok (.iconst 4, 1) := by decide +kernel
theorem dX8_isKind_16 : decode cX8_isKind 16 = .ok (.if_icmp .lt 13, 3) := by decide +kernel
theorem dX8_isKind_19 : decode cX8_isKind 19 = .ok (.iload_n 1, 1) := by decide +kernel
theorem dX8_isKind_20 : decode cX8_isKind 20 = .ok (.iconst 4, 1) := by decide +kernel
theorem dX8_isKind_21 : decode cX8_isKind 21 = .ok (.if_icmp .ne 12, 3) := by decide +kernel
theorem dX8_isKind_24 : decode cX8_isKind 24 = .ok (.iload_n 0, 1) := by decide +kernel
theorem dX8_isKind_25 : decode cX8_isKind 25 = .ok (.iconst 5, 1) := by decide +kernel
theorem dX8_isKind_26 : decode cX8_isKind 26 = .ok (.if_icmp .ne 7, 3) := by decide +kernel
theorem dX8_isKind_29 : decode cX8_isKind 29 = .ok (.iconst 1, 1) := by decide +kernel
theorem dX8_isKind_30 : decode cX8_isKind 30 = .ok (.goto 4, 3) := by decide +kernel
theorem dX8_isKind_33 : decode cX8_isKind 33 = .ok (.iconst 0, 1) := by decide +kernel
theorem dX8_isKind_34 : decode cX8_isKind 34 = .ok (.ireturn, 1) := by decide +kernel
theorem lq_X8_as_0 {w : Cond} (h : w ∈ ([.constantLong RX8 155 (5), .constant RX8 48 (-1000001), .fieldLink RX8 7 "WinterWalkModel" "slot" "[I", .methodLink RX8 157 yX8_isWalkerThere, .instanceMethod yX8_isWalkerThere, .selects RX8 yX8_isWalkerThere yX8_isWalkerThere, .initialized RX8, .code yX8_isWalkerThere cX8_isWalkerThere 2 (some .boolean), .methodLink RX8 42 yX8_in, .static yX8_in, .code yX8_in cX8_in 6 (some .boolean), .methodLink RX8 205 yX8_isKind, .static yX8_isKind, .code yX8_isKind cX8_isKind 2 (some .boolean), .methodLink RX8 53 yX8_told, .instanceMethod yX8_told, .selects RX8 yX8_told yX8_told, .code yX8_told cX8_told 2 (some .int), .fieldLink RX8 35 "WinterWalkModel" "status" "I", .methodLink RX8 49 yX8_finds, .instanceMethod yX8_finds, .selects RX8 yX8_finds yX8_finds, .code yX8_finds cX8_finds 2 (some .int), .constant RX8 39 (-1000010)] : List Cond)) : w ∈ wsX8_as := List.mem_cons_of_mem _ (List.mem_append_left _ (h))
theorem lt_X8_as_X8 : ∀ w ∈ wsX80, w ∈ wsX8_as := fun _ h => List.mem_cons_of_mem _ (List.mem_append_right _ (h))
set_option maxRecDepth 20000 in
theorem ggX8_as_X8_isWalkerThere : GoodIn wsX8_as wsX8_isWalkerThere := goodIn_sub (List.forall_mem_cons.mpr ⟨lq_X8_as_0 (List.mem_of_getElem? (i := 7) rfl), (List.forall_mem_append.mpr ⟨(show ∀ w ∈ ([.fieldLink RX8 7 "WinterWalkModel" "slot" "[I", .methodLink RX8 42 yX8_in, .static yX8_in, .initialized RX8, .code yX8_in cX8_in 6 (some .boolean)] : List Cond), w ∈ wsX8_as from List.forall_mem_cons.mpr ⟨lq_X8_as_0 (List.mem_of_getElem? (i := 2) rfl), List.forall_mem_cons.mpr ⟨lq_X8_as_0 (List.mem_of_getElem? (i := 8) rfl), List.forall_mem_cons.mpr ⟨lq_X8_as_0 (List.mem_of_getElem? (i := 9) rfl), List.forall_mem_cons.mpr ⟨lq_X8_as_0 (List.mem_of_getElem? (i := 6) rfl), List.forall_mem_cons.mpr ⟨lq_X8_as_0 (List.mem_of_getElem? (i := 10) rfl), fun _ h => absurd h List.not_mem_nil⟩⟩⟩⟩⟩), lt_X8_as_X8⟩)⟩) (by decide +kernel)
set_option maxRecDepth 20000 in
theorem gX8_as_X8_isWalkerThere : GoodIn wsX8_as (wsV RX8 157 RX8 yX8_isWalkerThere wsX8_isWalkerThere) := goodIn_app (goodIn_sub (List.forall_mem_cons.mpr ⟨lq_X8_as_0 (List.mem_of_getElem? (i := 3) rfl), List.forall_mem_cons.mpr ⟨lq_X8_as_0 (List.mem_of_getElem? (i := 4) rfl), List.forall_mem_cons.mpr ⟨lq_X8_as_0 (List.mem_of_getElem? (i := 5) rfl), List.forall_mem_cons.mpr ⟨lq_X8_as_0 (List.mem_of_getElem? (i := 6) rfl), fun _ h => absurd h List.not_mem_nil⟩⟩⟩⟩) (by decide +kernel)) ggX8_as_X8_isWalkerThere
set_option maxRecDepth 20000 in
theorem ggX8_as_X8_in : GoodIn wsX8_as wsX8_in := goodIn_sub (List.forall_mem_cons.mpr ⟨lq_X8_as_0 (List.mem_of_getElem? (i := 10) rfl), (show ∀ w ∈ ([] : List Cond), w ∈ wsX8_as from fun _ h => absurd h List.not_mem_nil)⟩) (by decide +kernel)
set_option maxRecDepth 20000 in
theorem gX8_as_X8_in : GoodIn wsX8_as (va_wsS RX8 42 yX8_in wsX8_in) := goodIn_app (goodIn_sub (List.forall_mem_cons.mpr ⟨lq_X8_as_0 (List.mem_of_getElem? (i := 8) rfl), List.forall_mem_cons.mpr ⟨lq_X8_as_0 (List.mem_of_getElem? (i := 9) rfl), List.forall_mem_cons.mpr ⟨lq_X8_as_0 (List.mem_of_getElem? (i := 6) rfl), fun _ h => absurd h List.not_mem_nil⟩⟩⟩) (by decide +kernel)) ggX8_as_X8_in
set_option maxRecDepth 20000 in
theorem ggX8_as_X8_isKind : GoodIn wsX8_as wsX8_isKind := goodIn_sub (List.forall_mem_cons.mpr ⟨lq_X8_as_0 (List.mem_of_getElem? (i := 13) rfl), (show ∀ w ∈ ([] : List Cond), w ∈ wsX8_as from fun _ h => absurd h List.not_mem_nil)⟩) (by decide +kernel)
set_option maxRecDepth 20000 in
theorem gX8_as_X8_isKind : GoodIn wsX8_as (va_wsS RX8 205 yX8_isKind wsX8_isKind) := goodIn_app (goodIn_sub (List.forall_mem_cons.mpr ⟨lq_X8_as_0 (List.mem_of_getElem? (i := 11) rfl), List.forall_mem_cons.mpr ⟨lq_X8_as_0 (List.mem_of_getElem? (i := 12) rfl), List.forall_mem_cons.mpr ⟨lq_X8_as_0 (List.mem_of_getElem? (i := 6) rfl), fun _ h => absurd h List.not_mem_nil⟩⟩⟩) (by decide +kernel)) ggX8_as_X8_isKind
set_option maxRecDepth 20000 in
theorem ggX8_as_X8_told : GoodIn wsX8_as wsX8_told := goodIn_sub (List.forall_mem_cons.mpr ⟨lq_X8_as_0 (List.mem_of_getElem? (i := 17) rfl), (List.forall_mem_append.mpr ⟨(show ∀ w ∈ ([.fieldLink RX8 35 "WinterWalkModel" "status" "I"] : List Cond), w ∈ wsX8_as from List.forall_mem_cons.mpr ⟨lq_X8_as_0 (List.mem_of_getElem? (i := 18) rfl), fun _ h => absurd h List.not_mem_nil⟩), lt_X8_as_X8⟩)⟩) (by decide +kernel)
set_option maxRecDepth 20000 in
theorem gX8_as_X8_told : GoodIn wsX8_as (wsV RX8 53 RX8 yX8_told wsX8_told) := goodIn_app (goodIn_sub (List.forall_mem_cons.mpr ⟨lq_X8_as_0 (List.mem_of_getElem? (i := 14) rfl), List.forall_mem_cons.mpr ⟨lq_X8_as_0 (List.mem_of_getElem? (i := 15) rfl), List.forall_mem_cons.mpr ⟨lq_X8_as_0 (List.mem_of_getElem? (i := 16) rfl), List.forall_mem_cons.mpr ⟨lq_X8_as_0 (List.mem_of_getElem? (i := 6) rfl), fun _ h => absurd h List.not_mem_nil⟩⟩⟩⟩) (by decide +kernel)) ggX8_as_X8_told
set_option maxRecDepth 20000 in
theorem ggX8_as_X8_finds : GoodIn wsX8_as wsX8_finds := goodIn_sub (List.forall_mem_cons.mpr ⟨lq_X8_as_0 (List.mem_of_getElem? (i := 22) rfl), (List.forall_mem_append.mpr ⟨(show ∀ w ∈ ([.fieldLink RX8 35 "WinterWalkModel" "status" "I", .constant RX8 39 (-1000010)] : List Cond), w ∈ wsX8_as from List.forall_mem_cons.mpr ⟨lq_X8_as_0 (List.mem_of_getElem? (i := 18) rfl), List.forall_mem_cons.mpr ⟨lq_X8_as_0 (List.mem_of_getElem? (i := 23) rfl), fun _ h => absurd h List.not_mem_nil⟩⟩), lt_X8_as_X8⟩)⟩) (by decide +kernel)
set_option maxRecDepth 20000 in
theorem gX8_as_X8_finds : GoodIn wsX8_as (wsV RX8 49 RX8 yX8_finds wsX8_finds) := goodIn_app (goodIn_sub (List.forall_mem_cons.mpr ⟨lq_X8_as_0 (List.mem_of_getElem? (i := 19) rfl), List.forall_mem_cons.mpr ⟨lq_X8_as_0 (List.mem_of_getElem? (i := 20) rfl), List.forall_mem_cons.mpr ⟨lq_X8_as_0 (List.mem_of_getElem? (i := 21) rfl), List.forall_mem_cons.mpr ⟨lq_X8_as_0 (List.mem_of_getElem? (i := 6) rfl), fun _ h => absurd h List.not_mem_nil⟩⟩⟩⟩) (by decide +kernel)) ggX8_as_X8_finds
theorem dX8_as_0 : decode cX8_as 0 = .ok (.aload_n 0, 1) := by decide +kernel
theorem dX8_as_1 : decode cX8_as 1 = .ok (.iload_n 1, 1) := by decide +kernel
theorem dX8_as_2 : decode cX8_as 2 = .ok (.invokevirtual 157, 3) := by decide +kernel
theorem dX8_as_5 : decode cX8_as 5 = .ok (.ifCond .eq 15, 3) := by decide +kernel
theorem dX8_as_8 : decode cX8_as 8 = .ok (.iload_n 2, 1) := by decide +kernel
theorem dX8_as_9 : decode cX8_as 9 = .ok (.i2l, 1) := by decide +kernel
theorem dX8_as_10 : decode cX8_as 10 = .ok (.lconst 0, 1) := by decide +kernel
theorem dX8_as_11 : decode cX8_as 11 = .ok (.ldc2_w 155, 3) := by decide +kernel
theorem dX8_as_14 : decode cX8_as 14 = .ok (.invokestatic 42, 3) := by decide +kernel
theorem dX8_as_17 : decode cX8_as 17 = .ok (.ifCond .ne 6, 3) := by decide +kernel
theorem dX8_as_20 : decode cX8_as 20 = .ok (.ldc 48, 2) := by decide +kernel
theorem dX8_as_22 : decode cX8_as 22 = .ok (.ireturn, 1) := by decide +kernel
theorem dX8_as_23 : decode cX8_as 23 = .ok (.aload_n 0, 1) := by decide +kernel
theorem dX8_as_24 : decode cX8_as 24 = .ok (.getfield 7, 3) := by decide +kernel
theorem dX8_as_27 : decode cX8_as 27 = .ok (.bipush 20, 2) := by decide +kernel
theorem dX8_as_29 : decode cX8_as 29 = .ok (.iload_n 1, 1) := by decide +kernel
theorem dX8_as_30 : decode cX8_as 30 = .ok (.iadd, 1) := by decide +kernel
theorem dX8_as_31 : decode cX8_as 31 = .ok (.iaload, 1) := by decide +kernel
theorem dX8_as_32 : decode cX8_as 32 = .ok (.iload_n 2, 1) := by decide +kernel
theorem dX8_as_33 : decode cX8_as 33 = .ok (.invokestatic 205, 3) := by decide +kernel
theorem dX8_as_36 : decode cX8_as 36 = .ok (.ifCond .eq 11, 3) := by decide +kernel
theorem dX8_as_39 : decode cX8_as 39 = .ok (.aload_n 0, 1) := by decide +kernel
theorem dX8_as_40 : decode cX8_as 40 = .ok (.iload_n 1, 1) := by decide +kernel
theorem dX8_as_41 : decode cX8_as 41 = .ok (.invokevirtual 53, 3) := by decide +kernel
theorem dX8_as_44 : decode cX8_as 44 = .ok (.goto 8, 3) := by decide +kernel
theorem dX8_as_47 : decode cX8_as 47 = .ok (.aload_n 0, 1) := by decide +kernel
theorem dX8_as_48 : decode cX8_as 48 = .ok (.iconst 3, 1) := by decide +kernel
theorem dX8_as_49 : decode cX8_as 49 = .ok (.invokevirtual 49, 3) := by decide +kernel
theorem dX8_as_52 : decode cX8_as 52 = .ok (.ireturn, 1) := by decide +kernel
theorem dX8_begins_0 : decode cX8_begins 0 = .ok (.aload_n 0, 1) := by decide +kernel
theorem dX8_begins_1 : decode cX8_begins 1 = .ok (.getfield 208, 3) := by decide +kernel
theorem dX8_begins_4 : decode cX8_begins 4 = .ok (.bipush 16, 2) := by decide +kernel
theorem dX8_begins_6 : decode cX8_begins 6 = .ok (.if_icmp .ge 23, 3) := by decide +kernel
theorem dX8_begins_9 : decode cX8_begins 9 = .ok (.aload_n 0, 1) := by decide +kernel
theorem dX8_begins_10 : decode cX8_begins 10 = .ok (.getfield 29, 3) := by decide +kernel
theorem dX8_begins_13 : decode cX8_begins 13 = .ok (.aload_n 0, 1) := by decide +kernel
theorem dX8_begins_14 : decode cX8_begins 14 = .ok (.getfield 208, 3) := by decide +kernel
theorem dX8_begins_17 : decode cX8_begins 17 = .ok (.iload_n 1, 1) := by decide +kernel
theorem dX8_begins_18 : decode cX8_begins 18 = .ok (.iastore, 1) := by decide +kernel
theorem dX8_begins_19 : decode cX8_begins 19 = .ok (.aload_n 0, 1) := by decide +kernel
theorem dX8_begins_20 : decode cX8_begins 20 = .ok (.dup, 1) := by decide +kernel
theorem dX8_begins_21 : decode cX8_begins 21 = .ok (.getfield 208, 3) := by decide +kernel
theorem dX8_begins_24 : decode cX8_begins 24 = .ok (.iconst 1, 1) := by decide +kernel
theorem dX8_begins_25 : decode cX8_begins 25 = .ok (.iadd, 1) := by decide +kernel
theorem dX8_begins_26 : decode cX8_begins 26 = .ok (.putfield 208, 3) := by decide +kernel
theorem dX8_begins_29 : decode cX8_begins 29 = .ok (.return_, 1) := by decide +kernel
theorem lq_X8_size10_0 {w : Cond} (h : w ∈ ([.fieldLink RX8 7 "WinterWalkModel" "slot" "[I", .methodLink RX8 211 yX8_begins, .instanceMethod yX8_begins, .selects RX8 yX8_begins yX8_begins, .initialized RX8, .code yX8_begins cX8_begins 2 none, .fieldLink RX8 208 "WinterWalkModel" "traced" "I", .fieldLink RX8 29 "WinterWalkModel" "trace" "[I"] : List Cond)) : w ∈ wsX8_size10 := List.mem_cons_of_mem _ (List.mem_append_left _ (h))
theorem lt_X8_size10_X8 : ∀ w ∈ wsX80, w ∈ wsX8_size10 := fun _ h => List.mem_cons_of_mem _ (List.mem_append_right _ (h))
set_option maxRecDepth 20000 in
theorem ggX8_size10_X8_begins : GoodIn wsX8_size10 wsX8_begins := goodIn_sub (List.forall_mem_cons.mpr ⟨lq_X8_size10_0 (List.mem_of_getElem? (i := 5) rfl), (List.forall_mem_append.mpr ⟨(show ∀ w ∈ ([.fieldLink RX8 208 "WinterWalkModel" "traced" "I", .fieldLink RX8 29 "WinterWalkModel" "trace" "[I"] : List Cond), w ∈ wsX8_size10 from List.forall_mem_cons.mpr ⟨lq_X8_size10_0 (List.mem_of_getElem? (i := 6) rfl), List.forall_mem_cons.mpr ⟨lq_X8_size10_0 (List.mem_of_getElem? (i := 7) rfl), fun _ h => absurd h List.not_mem_nil⟩⟩), lt_X8_size10_X8⟩)⟩) (by decide +kernel)
set_option maxRecDepth 20000 in
theorem gX8_size10_X8_begins : GoodIn wsX8_size10 (wsV RX8 211 RX8 yX8_begins wsX8_begins) := goodIn_app (goodIn_sub (List.forall_mem_cons.mpr ⟨lq_X8_size10_0 (List.mem_of_getElem? (i := 1) rfl), List.forall_mem_cons.mpr ⟨lq_X8_size10_0 (List.mem_of_getElem? (i := 2) rfl), List.forall_mem_cons.mpr ⟨lq_X8_size10_0 (List.mem_of_getElem? (i := 3) rfl), List.forall_mem_cons.mpr ⟨lq_X8_size10_0 (List.mem_of_getElem? (i := 4) rfl), fun _ h => absurd h List.not_mem_nil⟩⟩⟩⟩) (by decide +kernel)) ggX8_size10_X8_begins
theorem dX8_size10_0 : decode cX8_size10 0 = .ok (.aload_n 0, 1) := by decide +kernel
theorem dX8_size10_1 : decode cX8_size10 1 = .ok (.bipush 10, 2) := by decide +kernel
theorem dX8_size10_3 : decode cX8_size10 3 = .ok (.invokevirtual 211, 3) := by decide +kernel
theorem dX8_size10_6 : decode cX8_size10 6 = .ok (.aload_n 0, 1) := by decide +kernel
theorem dX8_size10_7 : decode cX8_size10 7 = .ok (.getfield 7, 3) := by decide +kernel
theorem dX8_size10_10 : decode cX8_size10 10 = .ok (.bipush 48, 2) := by decide +kernel
theorem dX8_size10_12 : decode cX8_size10 12 = .ok (.iload_n 1, 1) := by decide +kernel
theorem dX8_size10_13 : decode cX8_size10 13 = .ok (.iadd, 1) := by decide +kernel
theorem dX8_size10_14 : decode cX8_size10 14 = .ok (.iaload, 1) := by decide +kernel
theorem dX8_size10_15 : decode cX8_size10 15 = .ok (.ireturn, 1) := by decide +kernel
theorem lq_X8_mark20_0 {w : Cond} (h : w ∈ ([.methodLink RX8 211 yX8_begins, .instanceMethod yX8_begins, .selects RX8 yX8_begins yX8_begins, .initialized RX8, .code yX8_begins cX8_begins 2 none, .fieldLink RX8 208 "WinterWalkModel" "traced" "I", .fieldLink RX8 29 "WinterWalkModel" "trace" "[I"] : List Cond)) : w ∈ wsX8_mark20 := List.mem_cons_of_mem _ (List.mem_append_left _ (h))
theorem lt_X8_mark20_X8 : ∀ w ∈ wsX80, w ∈ wsX8_mark20 := fun _ h => List.mem_cons_of_mem _ (List.mem_append_right _ (h))
set_option maxRecDepth 20000 in
theorem ggX8_mark20_X8_begins : GoodIn wsX8_mark20 wsX8_begins := goodIn_sub (List.forall_mem_cons.mpr ⟨lq_X8_mark20_0 (List.mem_of_getElem? (i := 4) rfl), (List.forall_mem_append.mpr ⟨(show ∀ w ∈ ([.fieldLink RX8 208 "WinterWalkModel" "traced" "I", .fieldLink RX8 29 "WinterWalkModel" "trace" "[I"] : List Cond), w ∈ wsX8_mark20 from List.forall_mem_cons.mpr ⟨lq_X8_mark20_0 (List.mem_of_getElem? (i := 5) rfl), List.forall_mem_cons.mpr ⟨lq_X8_mark20_0 (List.mem_of_getElem? (i := 6) rfl), fun _ h => absurd h List.not_mem_nil⟩⟩), lt_X8_mark20_X8⟩)⟩) (by decide +kernel)
set_option maxRecDepth 20000 in
theorem gX8_mark20_X8_begins : GoodIn wsX8_mark20 (wsV RX8 211 RX8 yX8_begins wsX8_begins) := goodIn_app (goodIn_sub (List.forall_mem_cons.mpr ⟨lq_X8_mark20_0 (List.mem_of_getElem? (i := 0) rfl), List.forall_mem_cons.mpr ⟨lq_X8_mark20_0 (List.mem_of_getElem? (i := 1) rfl), List.forall_mem_cons.mpr ⟨lq_X8_mark20_0 (List.mem_of_getElem? (i := 2) rfl), List.forall_mem_cons.mpr ⟨lq_X8_mark20_0 (List.mem_of_getElem? (i := 3) rfl), fun _ h => absurd h List.not_mem_nil⟩⟩⟩⟩) (by decide +kernel)) ggX8_mark20_X8_begins
theorem dX8_mark20_0 : decode cX8_mark20 0 = .ok (.aload_n 0, 1) := by decide +kernel
theorem dX8_mark20_1 : decode cX8_mark20 1 = .ok (.bipush 20, 2) := by decide +kernel
theorem dX8_mark20_3 : decode cX8_mark20 3 = .ok (.invokevirtual 211, 3) := by decide +kernel
theorem dX8_mark20_6 : decode cX8_mark20 6 = .ok (.iload_n 1, 1) := by decide +kernel
theorem dX8_mark20_7 : decode cX8_mark20 7 = .ok (.ireturn, 1) := by decide +kernel
theorem lq_X8_mark21_0 {w : Cond} (h : w ∈ ([.fieldLink RX8 7 "WinterWalkModel" "slot" "[I", .methodLink RX8 211 yX8_begins, .instanceMethod yX8_begins, .selects RX8 yX8_begins yX8_begins, .initialized RX8, .code yX8_begins cX8_begins 2 none, .fieldLink RX8 208 "WinterWalkModel" "traced" "I", .fieldLink RX8 29 "WinterWalkModel" "trace" "[I", .methodLink RX8 214 yX8_mark20, .instanceMethod yX8_mark20, .selects RX8 yX8_mark20 yX8_mark20, .code yX8_mark20 cX8_mark20 2 (some .int)] : List Cond)) : w ∈ wsX8_mark21 := List.mem_cons_of_mem _ (List.mem_append_left _ (h))
theorem lt_X8_mark21_X8 : ∀ w ∈ wsX80, w ∈ wsX8_mark21 := fun _ h => List.mem_cons_of_mem _ (List.mem_append_right _ (h))
set_option maxRecDepth 20000 in
theorem ggX8_mark21_X8_begins : GoodIn wsX8_mark21 wsX8_begins := goodIn_sub (List.forall_mem_cons.mpr ⟨lq_X8_mark21_0 (List.mem_of_getElem? (i := 5) rfl), (List.forall_mem_append.mpr ⟨(show ∀ w ∈ ([.fieldLink RX8 208 "WinterWalkModel" "traced" "I", .fieldLink RX8 29 "WinterWalkModel" "trace" "[I"] : List Cond), w ∈ wsX8_mark21 from List.forall_mem_cons.mpr ⟨lq_X8_mark21_0 (List.mem_of_getElem? (i := 6) rfl), List.forall_mem_cons.mpr ⟨lq_X8_mark21_0 (List.mem_of_getElem? (i := 7) rfl), fun _ h => absurd h List.not_mem_nil⟩⟩), lt_X8_mark21_X8⟩)⟩) (by decide +kernel)
set_option maxRecDepth 20000 in
theorem gX8_mark21_X8_begins : GoodIn wsX8_mark21 (wsV RX8 211 RX8 yX8_begins wsX8_begins) := goodIn_app (goodIn_sub (List.forall_mem_cons.mpr ⟨lq_X8_mark21_0 (List.mem_of_getElem? (i := 1) rfl), List.forall_mem_cons.mpr ⟨lq_X8_mark21_0 (List.mem_of_getElem? (i := 2) rfl), List.forall_mem_cons.mpr ⟨lq_X8_mark21_0 (List.mem_of_getElem? (i := 3) rfl), List.forall_mem_cons.mpr ⟨lq_X8_mark21_0 (List.mem_of_getElem? (i := 4) rfl), fun _ h => absurd h List.not_mem_nil⟩⟩⟩⟩) (by decide +kernel)) ggX8_mark21_X8_begins
set_option maxRecDepth 20000 in
theorem ggX8_mark21_X8_mark20 : GoodIn wsX8_mark21 wsX8_mark20 := goodIn_sub (List.forall_mem_cons.mpr ⟨lq_X8_mark21_0 (List.mem_of_getElem? (i := 11) rfl), (List.forall_mem_append.mpr ⟨(show ∀ w ∈ ([.methodLink RX8 211 yX8_begins, .instanceMethod yX8_begins, .selects RX8 yX8_begins yX8_begins, .initialized RX8, .code yX8_begins cX8_begins 2 none, .fieldLink RX8 208 "WinterWalkModel" "traced" "I", .fieldLink RX8 29 "WinterWalkModel" "trace" "[I"] : List Cond), w ∈ wsX8_mark21 from List.forall_mem_cons.mpr ⟨lq_X8_mark21_0 (List.mem_of_getElem? (i := 1) rfl), List.forall_mem_cons.mpr ⟨lq_X8_mark21_0 (List.mem_of_getElem? (i := 2) rfl), List.forall_mem_cons.mpr ⟨lq_X8_mark21_0 (List.mem_of_getElem? (i := 3) rfl), List.forall_mem_cons.mpr ⟨lq_X8_mark21_0 (List.mem_of_getElem? (i := 4) rfl), List.forall_mem_cons.mpr ⟨lq_X8_mark21_0 (List.mem_of_getElem? (i := 5) rfl), List.forall_mem_cons.mpr ⟨lq_X8_mark21_0 (List.mem_of_getElem? (i := 6) rfl), List.forall_mem_cons.mpr ⟨lq_X8_mark21_0 (List.mem_of_getElem? (i := 7) rfl), fun _ h => absurd h List.not_mem_nil⟩⟩⟩⟩⟩⟩⟩), lt_X8_mark21_X8⟩)⟩) (by decide +kernel)
set_option maxRecDepth 20000 in
theorem gX8_mark21_X8_mark20 : GoodIn wsX8_mark21 (wsV RX8 214 RX8 yX8_mark20 wsX8_mark20) := goodIn_app (goodIn_sub (List.forall_mem_cons.mpr ⟨lq_X8_mark21_0 (List.mem_of_getElem? (i := 8) rfl), List.forall_mem_cons.mpr ⟨lq_X8_mark21_0 (List.mem_of_getElem? (i := 9) rfl), List.forall_mem_cons.mpr ⟨lq_X8_mark21_0 (List.mem_of_getElem? (i := 10) rfl), List.forall_mem_cons.mpr ⟨lq_X8_mark21_0 (List.mem_of_getElem? (i := 4) rfl), fun _ h => absurd h List.not_mem_nil⟩⟩⟩⟩) (by decide +kernel)) ggX8_mark21_X8_mark20
theorem dX8_mark21_0 : decode cX8_mark21 0 = .ok (.aload_n 0, 1) := by decide +kernel
theorem dX8_mark21_1 : decode cX8_mark21 1 = .ok (.bipush 21, 2) := by decide +kernel
theorem dX8_mark21_3 : decode cX8_mark21 3 = .ok (.invokevirtual 211, 3) := by decide +kernel
theorem dX8_mark21_6 : decode cX8_mark21 6 = .ok (.aload_n 0, 1) := by decide +kernel
theorem dX8_mark21_7 : decode cX8_mark21 7 = .ok (.iload_n 1, 1) := by decide +kernel
theorem dX8_mark21_8 : decode cX8_mark21 8 = .ok (.invokevirtual 214, 3) := by decide +kernel
theorem dX8_mark21_11 : decode cX8_mark21 11 = .ok (.istore_n 2, 1) := by decide +kernel
theorem dX8_mark21_12 : decode cX8_mark21 12 = .ok (.iload_n 2, 1) := by decide +kernel
theorem dX8_mark21_13 : decode cX8_mark21 13 = .ok (.aload_n 0, 1) := by decide +kernel
theorem dX8_mark21_14 : decode cX8_mark21 14 = .ok (.getfield 7, 3) := by decide +kernel
theorem dX8_mark21_17 : decode cX8_mark21 17 = .ok (.bipush 23, 2) := by decide +kernel
theorem dX8_mark21_19 : decode cX8_mark21 19 = .ok (.aload_n 0, 1) := by decide +kernel
theorem dX8_mark21_20 : decode cX8_mark21 20 = .ok (.getfield 7, 3) := by decide +kernel
theorem dX8_mark21_23 : decode cX8_mark21 23 = .ok (.bipush 48, 2) := by decide +kernel
theorem dX8_mark21_25 : decode cX8_mark21 25 = .ok (.iload_n 1, 1) := by decide +kernel
theorem dX8_mark21_26 : decode cX8_mark21 26 = .ok (.iadd, 1) := by decide +kernel
theorem dX8_mark21_27 : decode cX8_mark21 27 = .ok (.iaload, 1) := by decide +kernel
theorem dX8_mark21_28 : decode cX8_mark21 28 = .ok (.iadd, 1) := by decide +kernel
theorem dX8_mark21_29 : decode cX8_mark21 29 = .ok (.iaload, 1) := by decide +kernel
theorem dX8_mark21_30 : decode cX8_mark21 30 = .ok (.iadd, 1) := by decide +kernel
theorem dX8_mark21_31 : decode cX8_mark21 31 = .ok (.ireturn, 1) := by decide +kernel
theorem lq_X8_markOld_0 {w : Cond} (h : w ∈ ([.fieldLink RX8 7 "WinterWalkModel" "slot" "[I", .methodLink RX8 217 yX8_mark21, .instanceMethod yX8_mark21, .selects RX8 yX8_mark21 yX8_mark21, .initialized RX8, .code yX8_mark21 cX8_mark21 3 (some .int), .methodLink RX8 211 yX8_begins, .instanceMethod yX8_begins, .selects RX8 yX8_begins yX8_begins, .code yX8_begins cX8_begins 2 none, .fieldLink RX8 208 "WinterWalkModel" "traced" "I", .fieldLink RX8 29 "WinterWalkModel" "trace" "[I", .methodLink RX8 214 yX8_mark20, .instanceMethod yX8_mark20, .selects RX8 yX8_mark20 yX8_mark20, .code yX8_mark20 cX8_mark20 2 (some .int)] : List Cond)) : w ∈ wsX8_markOld := List.mem_cons_of_mem _ (List.mem_append_left _ (h))
theorem lt_X8_markOld_X8 : ∀ w ∈ wsX80, w ∈ wsX8_markOld := fun _ h => List.mem_cons_of_mem _ (List.mem_append_right _ (h))
set_option maxRecDepth 20000 in
theorem ggX8_markOld_X8_mark21 : GoodIn wsX8_markOld wsX8_mark21 := goodIn_sub (List.forall_mem_cons.mpr ⟨lq_X8_markOld_0 (List.mem_of_getElem? (i := 5) rfl), (List.forall_mem_append.mpr ⟨(show ∀ w ∈ ([.fieldLink RX8 7 "WinterWalkModel" "slot" "[I", .methodLink RX8 211 yX8_begins, .instanceMethod yX8_begins, .selects RX8 yX8_begins yX8_begins, .initialized RX8, .code yX8_begins cX8_begins 2 none, .fieldLink RX8 208 "WinterWalkModel" "traced" "I", .fieldLink RX8 29 "WinterWalkModel" "trace" "[I", .methodLink RX8 214 yX8_mark20, .instanceMethod yX8_mark20, .selects RX8 yX8_mark20 yX8_mark20, .code yX8_mark20 cX8_mark20 2 (some .int)] : List Cond), w ∈ wsX8_markOld from List.forall_mem_cons.mpr ⟨lq_X8_markOld_0 (List.mem_of_getElem? (i := 0) rfl), List.forall_mem_cons.mpr ⟨lq_X8_markOld_0 (List.mem_of_getElem? (i := 6) rfl), List.forall_mem_cons.mpr ⟨lq_X8_markOld_0 (List.mem_of_getElem? (i := 7) rfl), List.forall_mem_cons.mpr ⟨lq_X8_markOld_0 (List.mem_of_getElem? (i := 8) rfl), List.forall_mem_cons.mpr ⟨lq_X8_markOld_0 (List.mem_of_getElem? (i := 4) rfl), List.forall_mem_cons.mpr ⟨lq_X8_markOld_0 (List.mem_of_getElem? (i := 9) rfl), List.forall_mem_cons.mpr ⟨lq_X8_markOld_0 (List.mem_of_getElem? (i := 10) rfl), List.forall_mem_cons.mpr ⟨lq_X8_markOld_0 (List.mem_of_getElem? (i := 11) rfl), List.forall_mem_cons.mpr ⟨lq_X8_markOld_0 (List.mem_of_getElem? (i := 12) rfl), List.forall_mem_cons.mpr ⟨lq_X8_markOld_0 (List.mem_of_getElem? (i := 13) rfl), List.forall_mem_cons.mpr ⟨lq_X8_markOld_0 (List.mem_of_getElem? (i := 14) rfl), List.forall_mem_cons.mpr ⟨lq_X8_markOld_0 (List.mem_of_getElem? (i := 15) rfl), fun _ h => absurd h List.not_mem_nil⟩⟩⟩⟩⟩⟩⟩⟩⟩⟩⟩⟩), lt_X8_markOld_X8⟩)⟩) (by decide +kernel)
set_option maxRecDepth 20000 in
theorem gX8_markOld_X8_mark21 : GoodIn wsX8_markOld (wsV RX8 217 RX8 yX8_mark21 wsX8_mark21) := goodIn_app (goodIn_sub (List.forall_mem_cons.mpr ⟨lq_X8_markOld_0 (List.mem_of_getElem? (i := 1) rfl), List.forall_mem_cons.mpr ⟨lq_X8_markOld_0 (List.mem_of_getElem? (i := 2) rfl), List.forall_mem_cons.mpr ⟨lq_X8_markOld_0 (List.mem_of_getElem? (i := 3) rfl), List.forall_mem_cons.mpr ⟨lq_X8_markOld_0 (List.mem_of_getElem? (i := 4) rfl), fun _ h => absurd h List.not_mem_nil⟩⟩⟩⟩) (by decide +kernel)) ggX8_markOld_X8_mark21
set_option maxRecDepth 20000 in
theorem ggX8_markOld_X8_begins : GoodIn wsX8_markOld wsX8_begins := goodIn_sub (List.forall_mem_cons.mpr ⟨lq_X8_markOld_0 (List.mem_of_getElem? (i := 9) rfl), (List.forall_mem_append.mpr ⟨(show ∀ w ∈ ([.fieldLink RX8 208 "WinterWalkModel" "traced" "I", .fieldLink RX8 29 "WinterWalkModel" "trace" "[I"] : List Cond), w ∈ wsX8_markOld from List.forall_mem_cons.mpr ⟨lq_X8_markOld_0 (List.mem_of_getElem? (i := 10) rfl), List.forall_mem_cons.mpr ⟨lq_X8_markOld_0 (List.mem_of_getElem? (i := 11) rfl), fun _ h => absurd h List.not_mem_nil⟩⟩), lt_X8_markOld_X8⟩)⟩) (by decide +kernel)
set_option maxRecDepth 20000 in
theorem gX8_markOld_X8_begins : GoodIn wsX8_markOld (wsV RX8 211 RX8 yX8_begins wsX8_begins) := goodIn_app (goodIn_sub (List.forall_mem_cons.mpr ⟨lq_X8_markOld_0 (List.mem_of_getElem? (i := 6) rfl), List.forall_mem_cons.mpr ⟨lq_X8_markOld_0 (List.mem_of_getElem? (i := 7) rfl), List.forall_mem_cons.mpr ⟨lq_X8_markOld_0 (List.mem_of_getElem? (i := 8) rfl), List.forall_mem_cons.mpr ⟨lq_X8_markOld_0 (List.mem_of_getElem? (i := 4) rfl), fun _ h => absurd h List.not_mem_nil⟩⟩⟩⟩) (by decide +kernel)) ggX8_markOld_X8_begins
theorem dX8_markOld_0 : decode cX8_markOld 0 = .ok (.aload_n 0, 1) := by decide +kernel
theorem dX8_markOld_1 : decode cX8_markOld 1 = .ok (.getfield 7, 3) := by decide +kernel
theorem dX8_markOld_4 : decode cX8_markOld 4 = .ok (.bipush 20, 2) := by decide +kernel
theorem dX8_markOld_6 : decode cX8_markOld 6 = .ok (.iload_n 1, 1) := by decide +kernel
theorem dX8_markOld_7 : decode cX8_markOld 7 = .ok (.iadd, 1) := by decide +kernel
theorem dX8_markOld_8 : decode cX8_markOld 8 = .ok (.iaload, 1) := by decide +kernel
theorem dX8_markOld_9 : decode cX8_markOld 9 = .ok (.istore_n 2, 1) := by decide +kernel
theorem dX8_markOld_10 : decode cX8_markOld 10 = .ok (.iload_n 2, 1) := by decide +kernel
theorem dX8_markOld_11 : decode cX8_markOld 11 = .ok (.iconst 1, 1) := by decide +kernel
theorem dX8_markOld_12 : decode cX8_markOld 12 = .ok (.if_icmp .ne 9, 3) := by decide +kernel
theorem dX8_markOld_15 : decode cX8_markOld 15 = .ok (.aload_n 0, 1) := by decide +kernel
theorem dX8_markOld_16 : decode cX8_markOld 16 = .ok (.iload_n 1, 1) := by decide +kernel
theorem dX8_markOld_17 : decode cX8_markOld 17 = .ok (.invokevirtual 217, 3) := by decide +kernel
theorem dX8_markOld_20 : decode cX8_markOld 20 = .ok (.ireturn, 1) := by decide +kernel
theorem dX8_markOld_21 : decode cX8_markOld 21 = .ok (.aload_n 0, 1) := by decide +kernel
theorem dX8_markOld_22 : decode cX8_markOld 22 = .ok (.iload_n 2, 1) := by decide +kernel
theorem dX8_markOld_23 : decode cX8_markOld 23 = .ok (.iconst 3, 1) := by decide +kernel
theorem dX8_markOld_24 : decode cX8_markOld 24 = .ok (.if_icmp .ne 8, 3) := by decide +kernel
theorem dX8_markOld_27 : decode cX8_markOld 27 = .ok (.bipush 22, 2) := by decide +kernel
theorem dX8_markOld_29 : decode cX8_markOld 29 = .ok (.goto 5, 3) := by decide +kernel
theorem dX8_markOld_32 : decode cX8_markOld 32 = .ok (.bipush 24, 2) := by decide +kernel
theorem dX8_markOld_34 : decode cX8_markOld 34 = .ok (.invokevirtual 211, 3) := by decide +kernel
theorem dX8_markOld_37 : decode cX8_markOld 37 = .ok (.aload_n 0, 1) := by decide +kernel
theorem dX8_markOld_38 : decode cX8_markOld 38 = .ok (.iload_n 1, 1) := by decide +kernel
theorem dX8_markOld_39 : decode cX8_markOld 39 = .ok (.invokevirtual 217, 3) := by decide +kernel
theorem dX8_markOld_42 : decode cX8_markOld 42 = .ok (.istore_n 3, 1) := by decide +kernel
theorem dX8_markOld_43 : decode cX8_markOld 43 = .ok (.iload_n 2, 1) := by decide +kernel
theorem dX8_markOld_44 : decode cX8_markOld 44 = .ok (.iconst 3, 1) := by decide +kernel
theorem dX8_markOld_45 : decode cX8_markOld 45 = .ok (.if_icmp .ne 11, 3) := by decide +kernel
theorem dX8_markOld_48 : decode cX8_markOld 48 = .ok (.iload_n 3, 1) := by decide +kernel
theorem dX8_markOld_49 : decode cX8_markOld 49 = .ok (.sipush 1000, 3) := by decide +kernel
theorem dX8_markOld_52 : decode cX8_markOld 52 = .ok (.isub, 1) := by decide +kernel
theorem dX8_markOld_53 : decode cX8_markOld 53 = .ok (.goto 6, 3) := by decide +kernel
theorem dX8_markOld_56 : decode cX8_markOld 56 = .ok (.iconst 2, 1) := by decide +kernel
theorem dX8_markOld_57 : decode cX8_markOld 57 = .ok (.iload_n 3, 1) := by decide +kernel
theorem dX8_markOld_58 : decode cX8_markOld 58 = .ok (.imul, 1) := by decide +kernel
theorem dX8_markOld_59 : decode cX8_markOld 59 = .ok (.ireturn, 1) := by decide +kernel
theorem lq_X8_size11_0 {w : Cond} (h : w ∈ ([.methodLink RX8 211 yX8_begins, .instanceMethod yX8_begins, .selects RX8 yX8_begins yX8_begins, .initialized RX8, .code yX8_begins cX8_begins 2 none, .fieldLink RX8 208 "WinterWalkModel" "traced" "I", .fieldLink RX8 29 "WinterWalkModel" "trace" "[I", .methodLink RX8 220 yX8_size10, .instanceMethod yX8_size10, .selects RX8 yX8_size10 yX8_size10, .code yX8_size10 cX8_size10 2 (some .int), .fieldLink RX8 7 "WinterWalkModel" "slot" "[I", .methodLink RX8 223 yX8_markOld, .instanceMethod yX8_markOld, .selects RX8 yX8_markOld yX8_markOld, .code yX8_markOld cX8_markOld 4 (some .int), .methodLink RX8 217 yX8_mark21, .instanceMethod yX8_mark21, .selects RX8 yX8_mark21 yX8_mark21, .code yX8_mark21 cX8_mark21 3 (some .int), .methodLink RX8 214 yX8_mark20, .instanceMethod yX8_mark20, .selects RX8 yX8_mark20 yX8_mark20, .code yX8_mark20 cX8_mark20 2 (some .int)] : List Cond)) : w ∈ wsX8_size11 := List.mem_cons_of_mem _ (List.mem_append_left _ (h))
theorem lt_X8_size11_X8 : ∀ w ∈ wsX80, w ∈ wsX8_size11 := fun _ h => List.mem_cons_of_mem _ (List.mem_append_right _ (h))
set_option maxRecDepth 20000 in
theorem ggX8_size11_X8_begins : GoodIn wsX8_size11 wsX8_begins := goodIn_sub (List.forall_mem_cons.mpr ⟨lq_X8_size11_0 (List.mem_of_getElem? (i := 4) rfl), (List.forall_mem_append.mpr ⟨(show ∀ w ∈ ([.fieldLink RX8 208 "WinterWalkModel" "traced" "I", .fieldLink RX8 29 "WinterWalkModel" "trace" "[I"] : List Cond), w ∈ wsX8_size11 from List.forall_mem_cons.mpr ⟨lq_X8_size11_0 (List.mem_of_getElem? (i := 5) rfl), List.forall_mem_cons.mpr ⟨lq_X8_size11_0 (List.mem_of_getElem? (i := 6) rfl), fun _ h => absurd h List.not_mem_nil⟩⟩), lt_X8_size11_X8⟩)⟩) (by decide +kernel)
set_option maxRecDepth 20000 in
theorem gX8_size11_X8_begins : GoodIn wsX8_size11 (wsV RX8 211 RX8 yX8_begins wsX8_begins) := goodIn_app (goodIn_sub (List.forall_mem_cons.mpr ⟨lq_X8_size11_0 (List.mem_of_getElem? (i := 0) rfl), List.forall_mem_cons.mpr ⟨lq_X8_size11_0 (List.mem_of_getElem? (i := 1) rfl), List.forall_mem_cons.mpr ⟨lq_X8_size11_0 (List.mem_of_getElem? (i := 2) rfl), List.forall_mem_cons.mpr ⟨lq_X8_size11_0 (List.mem_of_getElem? (i := 3) rfl), fun _ h => absurd h List.not_mem_nil⟩⟩⟩⟩) (by decide +kernel)) ggX8_size11_X8_begins
set_option maxRecDepth 20000 in
theorem ggX8_size11_X8_size10 : GoodIn wsX8_size11 wsX8_size10 := goodIn_sub (List.forall_mem_cons.mpr ⟨lq_X8_size11_0 (List.mem_of_getElem? (i := 10) rfl), (List.forall_mem_append.mpr ⟨(show ∀ w ∈ ([.fieldLink RX8 7 "WinterWalkModel" "slot" "[I", .methodLink RX8 211 yX8_begins, .instanceMethod yX8_begins, .selects RX8 yX8_begins yX8_begins, .initialized RX8, .code yX8_begins cX8_begins 2 none, .fieldLink RX8 208 "WinterWalkModel" "traced" "I", .fieldLink RX8 29 "WinterWalkModel" "trace" "[I"] : List Cond), w ∈ wsX8_size11 from List.forall_mem_cons.mpr ⟨lq_X8_size11_0 (List.mem_of_getElem? (i := 11) rfl), List.forall_mem_cons.mpr ⟨lq_X8_size11_0 (List.mem_of_getElem? (i := 0) rfl), List.forall_mem_cons.mpr ⟨lq_X8_size11_0 (List.mem_of_getElem? (i := 1) rfl), List.forall_mem_cons.mpr ⟨lq_X8_size11_0 (List.mem_of_getElem? (i := 2) rfl), List.forall_mem_cons.mpr ⟨lq_X8_size11_0 (List.mem_of_getElem? (i := 3) rfl), List.forall_mem_cons.mpr ⟨lq_X8_size11_0 (List.mem_of_getElem? (i := 4) rfl), List.forall_mem_cons.mpr ⟨lq_X8_size11_0 (List.mem_of_getElem? (i := 5) rfl), List.forall_mem_cons.mpr ⟨lq_X8_size11_0 (List.mem_of_getElem? (i := 6) rfl), fun _ h => absurd h List.not_mem_nil⟩⟩⟩⟩⟩⟩⟩⟩), lt_X8_size11_X8⟩)⟩) (by decide +kernel)
set_option maxRecDepth 20000 in
theorem gX8_size11_X8_size10 : GoodIn wsX8_size11 (wsV RX8 220 RX8 yX8_size10 wsX8_size10) := goodIn_app (goodIn_sub (List.forall_mem_cons.mpr ⟨lq_X8_size11_0 (List.mem_of_getElem? (i := 7) rfl), List.forall_mem_cons.mpr ⟨lq_X8_size11_0 (List.mem_of_getElem? (i := 8) rfl), List.forall_mem_cons.mpr ⟨lq_X8_size11_0 (List.mem_of_getElem? (i := 9) rfl), List.forall_mem_cons.mpr ⟨lq_X8_size11_0 (List.mem_of_getElem? (i := 3) rfl), fun _ h => absurd h List.not_mem_nil⟩⟩⟩⟩) (by decide +kernel)) ggX8_size11_X8_size10
set_option maxRecDepth 20000 in
theorem ggX8_size11_X8_markOld : GoodIn wsX8_size11 wsX8_markOld := goodIn_sub (List.forall_mem_cons.mpr ⟨lq_X8_size11_0 (List.mem_of_getElem? (i := 15) rfl), (List.forall_mem_append.mpr ⟨(show ∀ w ∈ ([.fieldLink RX8 7 "WinterWalkModel" "slot" "[I", .methodLink RX8 217 yX8_mark21, .instanceMethod yX8_mark21, .selects RX8 yX8_mark21 yX8_mark21, .initialized RX8, .code yX8_mark21 cX8_mark21 3 (some .int), .methodLink RX8 211 yX8_begins, .instanceMethod yX8_begins, .selects RX8 yX8_begins yX8_begins, .code yX8_begins cX8_begins 2 none, .fieldLink RX8 208 "WinterWalkModel" "traced" "I", .fieldLink RX8 29 "WinterWalkModel" "trace" "[I", .methodLink RX8 214 yX8_mark20, .instanceMethod yX8_mark20, .selects RX8 yX8_mark20 yX8_mark20, .code yX8_mark20 cX8_mark20 2 (some .int)] : List Cond), w ∈ wsX8_size11 from List.forall_mem_cons.mpr ⟨lq_X8_size11_0 (List.mem_of_getElem? (i := 11) rfl), List.forall_mem_cons.mpr ⟨lq_X8_size11_0 (List.mem_of_getElem? (i := 16) rfl), List.forall_mem_cons.mpr ⟨lq_X8_size11_0 (List.mem_of_getElem? (i := 17) rfl), List.forall_mem_cons.mpr ⟨lq_X8_size11_0 (List.mem_of_getElem? (i := 18) rfl), List.forall_mem_cons.mpr ⟨lq_X8_size11_0 (List.mem_of_getElem? (i := 3) rfl), List.forall_mem_cons.mpr ⟨lq_X8_size11_0 (List.mem_of_getElem? (i := 19) rfl), List.forall_mem_cons.mpr ⟨lq_X8_size11_0 (List.mem_of_getElem? (i := 0) rfl), List.forall_mem_cons.mpr ⟨lq_X8_size11_0 (List.mem_of_getElem? (i := 1) rfl), List.forall_mem_cons.mpr ⟨lq_X8_size11_0 (List.mem_of_getElem? (i := 2) rfl), List.forall_mem_cons.mpr ⟨lq_X8_size11_0 (List.mem_of_getElem? (i := 4) rfl), List.forall_mem_cons.mpr ⟨lq_X8_size11_0 (List.mem_of_getElem? (i := 5) rfl), List.forall_mem_cons.mpr ⟨lq_X8_size11_0 (List.mem_of_getElem? (i := 6) rfl), List.forall_mem_cons.mpr ⟨lq_X8_size11_0 (List.mem_of_getElem? (i := 20) rfl), List.forall_mem_cons.mpr ⟨lq_X8_size11_0 (List.mem_of_getElem? (i := 21) rfl), List.forall_mem_cons.mpr ⟨lq_X8_size11_0 (List.mem_of_getElem? (i := 22) rfl), List.forall_mem_cons.mpr ⟨lq_X8_size11_0 (List.mem_of_getElem? (i := 23) rfl), fun _ h => absurd h List.not_mem_nil⟩⟩⟩⟩⟩⟩⟩⟩⟩⟩⟩⟩⟩⟩⟩⟩), lt_X8_size11_X8⟩)⟩) (by decide +kernel)
set_option maxRecDepth 20000 in
theorem gX8_size11_X8_markOld : GoodIn wsX8_size11 (wsV RX8 223 RX8 yX8_markOld wsX8_markOld) := goodIn_app (goodIn_sub (List.forall_mem_cons.mpr ⟨lq_X8_size11_0 (List.mem_of_getElem? (i := 12) rfl), List.forall_mem_cons.mpr ⟨lq_X8_size11_0 (List.mem_of_getElem? (i := 13) rfl), List.forall_mem_cons.mpr ⟨lq_X8_size11_0 (List.mem_of_getElem? (i := 14) rfl), List.forall_mem_cons.mpr ⟨lq_X8_size11_0 (List.mem_of_getElem? (i := 3) rfl), fun _ h => absurd h List.not_mem_nil⟩⟩⟩⟩) (by decide +kernel)) ggX8_size11_X8_markOld
theorem dX8_size11_0 : decode cX8_size11 0 = .ok (.aload_n 0, 1) := by decide +kernel
theorem dX8_size11_1 : decode cX8_size11 1 = .ok (.bipush 11, 2) := by decide +kernel
theorem dX8_size11_3 : decode cX8_size11 3 = .ok (.invokevirtual 211, 3) := by decide +kernel
theorem dX8_size11_6 : decode cX8_size11 6 = .ok (.aload_n 0, 1) := by decide +kernel
theorem dX8_size11_7 : decode cX8_size11 7 = .ok (.iload_n 1, 1) := by decide +kernel
theorem dX8_size11_8 : decode cX8_size11 8 = .ok (.invokevirtual 220, 3) := by decide +kernel
theorem dX8_size11_11 : decode cX8_size11 11 = .ok (.istore_n 2, 1) := by decide +kernel
theorem dX8_size11_12 : decode cX8_size11 12 = .ok (.iload_n 2, 1) := by decide +kernel
theorem dX8_size11_13 : decode cX8_size11 13 = .ok (.aload_n 0, 1) := by decide +kernel
theorem dX8_size11_14 : decode cX8_size11 14 = .ok (.iload_n 1, 1) := by decide +kernel
theorem dX8_size11_15 : decode cX8_size11 15 = .ok (.invokevirtual 223, 3) := by decide +kernel
theorem dX8_size11_18 : decode cX8_size11 18 = .ok (.iadd, 1) := by decide +kernel
theorem dX8_size11_19 : decode cX8_size11 19 = .ok (.ireturn, 1) := by decide +kernel
theorem lq_X8_size13_0 {w : Cond} (h : w ∈ ([.methodLink RX8 211 yX8_begins, .instanceMethod yX8_begins, .selects RX8 yX8_begins yX8_begins, .initialized RX8, .code yX8_begins cX8_begins 2 none, .fieldLink RX8 208 "WinterWalkModel" "traced" "I", .fieldLink RX8 29 "WinterWalkModel" "trace" "[I", .methodLink RX8 220 yX8_size10, .instanceMethod yX8_size10, .selects RX8 yX8_size10 yX8_size10, .code yX8_size10 cX8_size10 2 (some .int), .fieldLink RX8 7 "WinterWalkModel" "slot" "[I"] : List Cond)) : w ∈ wsX8_size13 := List.mem_cons_of_mem _ (List.mem_append_left _ (h))
theorem lt_X8_size13_X8 : ∀ w ∈ wsX80, w ∈ wsX8_size13 := fun _ h => List.mem_cons_of_mem _ (List.mem_append_right _ (h))
set_option maxRecDepth 20000 in
theorem ggX8_size13_X8_begins : GoodIn wsX8_size13 wsX8_begins := goodIn_sub (List.forall_mem_cons.mpr ⟨lq_X8_size13_0 (List.mem_of_getElem? (i := 4) rfl), (List.forall_mem_append.mpr ⟨(show ∀ w ∈ ([.fieldLink RX8 208 "WinterWalkModel" "traced" "I", .fieldLink RX8 29 "WinterWalkModel" "trace" "[I"] : List Cond), w ∈ wsX8_size13 from List.forall_mem_cons.mpr ⟨lq_X8_size13_0 (List.mem_of_getElem? (i := 5) rfl), List.forall_mem_cons.mpr ⟨lq_X8_size13_0 (List.mem_of_getElem? (i := 6) rfl), fun _ h => absurd h List.not_mem_nil⟩⟩), lt_X8_size13_X8⟩)⟩) (by decide +kernel)
set_option maxRecDepth 20000 in
theorem gX8_size13_X8_begins : GoodIn wsX8_size13 (wsV RX8 211 RX8 yX8_begins wsX8_begins) := goodIn_app (goodIn_sub (List.forall_mem_cons.mpr ⟨lq_X8_size13_0 (List.mem_of_getElem? (i := 0) rfl), List.forall_mem_cons.mpr ⟨lq_X8_size13_0 (List.mem_of_getElem? (i := 1) rfl), List.forall_mem_cons.mpr ⟨lq_X8_size13_0 (List.mem_of_getElem? (i := 2) rfl), List.forall_mem_cons.mpr ⟨lq_X8_size13_0 (List.mem_of_getElem? (i := 3) rfl), fun _ h => absurd h List.not_mem_nil⟩⟩⟩⟩) (by decide +kernel)) ggX8_size13_X8_begins
set_option maxRecDepth 20000 in
theorem ggX8_size13_X8_size10 : GoodIn wsX8_size13 wsX8_size10 := goodIn_sub (List.forall_mem_cons.mpr ⟨lq_X8_size13_0 (List.mem_of_getElem? (i := 10) rfl), (List.forall_mem_append.mpr ⟨(show ∀ w ∈ ([.fieldLink RX8 7 "WinterWalkModel" "slot" "[I", .methodLink RX8 211 yX8_begins, .instanceMethod yX8_begins, .selects RX8 yX8_begins yX8_begins, .initialized RX8, .code yX8_begins cX8_begins 2 none, .fieldLink RX8 208 "WinterWalkModel" "traced" "I", .fieldLink RX8 29 "WinterWalkModel" "trace" "[I"] : List Cond), w ∈ wsX8_size13 from List.forall_mem_cons.mpr ⟨lq_X8_size13_0 (List.mem_of_getElem? (i := 11) rfl), List.forall_mem_cons.mpr ⟨lq_X8_size13_0 (List.mem_of_getElem? (i := 0) rfl), List.forall_mem_cons.mpr ⟨lq_X8_size13_0 (List.mem_of_getElem? (i := 1) rfl), List.forall_mem_cons.mpr ⟨lq_X8_size13_0 (List.mem_of_getElem? (i := 2) rfl), List.forall_mem_cons.mpr ⟨lq_X8_size13_0 (List.mem_of_getElem? (i := 3) rfl), List.forall_mem_cons.mpr ⟨lq_X8_size13_0 (List.mem_of_getElem? (i := 4) rfl), List.forall_mem_cons.mpr ⟨lq_X8_size13_0 (List.mem_of_getElem? (i := 5) rfl), List.forall_mem_cons.mpr ⟨lq_X8_size13_0 (List.mem_of_getElem? (i := 6) rfl), fun _ h => absurd h List.not_mem_nil⟩⟩⟩⟩⟩⟩⟩⟩), lt_X8_size13_X8⟩)⟩) (by decide +kernel)
set_option maxRecDepth 20000 in
theorem gX8_size13_X8_size10 : GoodIn wsX8_size13 (wsV RX8 220 RX8 yX8_size10 wsX8_size10) := goodIn_app (goodIn_sub (List.forall_mem_cons.mpr ⟨lq_X8_size13_0 (List.mem_of_getElem? (i := 7) rfl), List.forall_mem_cons.mpr ⟨lq_X8_size13_0 (List.mem_of_getElem? (i := 8) rfl), List.forall_mem_cons.mpr ⟨lq_X8_size13_0 (List.mem_of_getElem? (i := 9) rfl), List.forall_mem_cons.mpr ⟨lq_X8_size13_0 (List.mem_of_getElem? (i := 3) rfl), fun _ h => absurd h List.not_mem_nil⟩⟩⟩⟩) (by decide +kernel)) ggX8_size13_X8_size10
theorem dX8_size13_0 : decode cX8_size13 0 = .ok (.aload_n 0, 1) := by decide +kernel
theorem dX8_size13_1 : decode cX8_size13 1 = .ok (.bipush 13, 2) := by decide +kernel
theorem dX8_size13_3 : decode cX8_size13 3 = .ok (.invokevirtual 211, 3) := by decide +kernel
theorem dX8_size13_6 : decode cX8_size13 6 = .ok (.aload_n 0, 1) := by decide +kernel
theorem dX8_size13_7 : decode cX8_size13 7 = .ok (.iload_n 1, 1) := by decide +kernel
theorem dX8_size13_8 : decode cX8_size13 8 = .ok (.invokevirtual 220, 3) := by decide +kernel
theorem dX8_size13_11 : decode cX8_size13 11 = .ok (.bipush 100, 2) := by decide +kernel
theorem dX8_size13_13 : decode cX8_size13 13 = .ok (.isub, 1) := by decide +kernel
theorem dX8_size13_14 : decode cX8_size13 14 = .ok (.ireturn, 1) := by decide +kernel
theorem lq_X8_sizeOf_0 {w : Cond} (h : w ∈ (wsX8_sizeOf_r1 : List Cond)) : w ∈ wsX8_sizeOf := List.mem_cons_of_mem _ (List.mem_append_left _ (List.mem_append_left _ (h)))
theorem lq_X8_sizeOf_1 {w : Cond} (h : w ∈ (wsX8_sizeOf_r2 : List Cond)) : w ∈ wsX8_sizeOf := List.mem_cons_of_mem _ (List.mem_append_left _ (List.mem_append_right _ (h)))
theorem lt_X8_sizeOf_X8 : ∀ w ∈ wsX80, w ∈ wsX8_sizeOf := fun _ h => List.mem_cons_of_mem _ (List.mem_append_right _ (h))
set_option maxRecDepth 20000 in
theorem ggX8_sizeOf_X8_size11 : GoodIn wsX8_sizeOf wsX8_size11 := goodIn_sub (List.forall_mem_cons.mpr ⟨lq_X8_sizeOf_0 (List.mem_of_getElem? (i := 5) rfl), (List.forall_mem_append.mpr ⟨(show ∀ w ∈ ([.methodLink RX8 211 yX8_begins, .instanceMethod yX8_begins, .selects RX8 yX8_begins yX8_begins, .initialized RX8, .code yX8_begins cX8_begins 2 none, .fieldLink RX8 208 "WinterWalkModel" "traced" "I", .fieldLink RX8 29 "WinterWalkModel" "trace" "[I", .methodLink RX8 220 yX8_size10, .instanceMethod yX8_size10, .selects RX8 yX8_size10 yX8_size10, .code yX8_size10 cX8_size10 2 (some .int), .fieldLink RX8 7 "WinterWalkModel" "slot" "[I", .methodLink RX8 223 yX8_markOld, .instanceMethod yX8_markOld, .selects RX8 yX8_markOld yX8_markOld, .code yX8_markOld cX8_markOld 4 (some .int), .methodLink RX8 217 yX8_mark21, .instanceMethod yX8_mark21, .selects RX8 yX8_mark21 yX8_mark21, .code yX8_mark21 cX8_mark21 3 (some .int), .methodLink RX8 214 yX8_mark20, .instanceMethod yX8_mark20, .selects RX8 yX8_mark20 yX8_mark20, .code yX8_mark20 cX8_mark20 2 (some .int)] : List Cond), w ∈ wsX8_sizeOf from List.forall_mem_cons.mpr ⟨lq_X8_sizeOf_0 (List.mem_of_getElem? (i := 6) rfl), List.forall_mem_cons.mpr ⟨lq_X8_sizeOf_0 (List.mem_of_getElem? (i := 7) rfl), List.forall_mem_cons.mpr ⟨lq_X8_sizeOf_0 (List.mem_of_getElem? (i := 8) rfl), List.forall_mem_cons.mpr ⟨lq_X8_sizeOf_0 (List.mem_of_getElem? (i := 4) rfl), List.forall_mem_cons.mpr ⟨lq_X8_sizeOf_0 (List.mem_of_getElem? (i := 9) rfl), List.forall_mem_cons.mpr ⟨lq_X8_sizeOf_0 (List.mem_of_getElem? (i := 10) rfl), List.forall_mem_cons.mpr ⟨lq_X8_sizeOf_0 (List.mem_of_getElem? (i := 11) rfl), List.forall_mem_cons.mpr ⟨lq_X8_sizeOf_0 (List.mem_of_getElem? (i := 12) rfl), List.forall_mem_cons.mpr ⟨lq_X8_sizeOf_0 (List.mem_of_getElem? (i := 13) rfl), List.forall_mem_cons.mpr ⟨lq_X8_sizeOf_0 (List.mem_of_getElem? (i := 14) rfl), List.forall_mem_cons.mpr ⟨lq_X8_sizeOf_0 (List.mem_of_getElem? (i := 15) rfl), List.forall_mem_cons.mpr ⟨lq_X8_sizeOf_0 (List.mem_of_getElem? (i := 0) rfl), List.forall_mem_cons.mpr ⟨lq_X8_sizeOf_0 (List.mem_of_getElem? (i := 16) rfl), List.forall_mem_cons.mpr ⟨lq_X8_sizeOf_0 (List.mem_of_getElem? (i := 17) rfl), List.forall_mem_cons.mpr ⟨lq_X8_sizeOf_0 (List.mem_of_getElem? (i := 18) rfl), List.forall_mem_cons.mpr ⟨lq_X8_sizeOf_0 (List.mem_of_getElem? (i := 19) rfl), List.forall_mem_cons.mpr ⟨lq_X8_sizeOf_0 (List.mem_of_getElem? (i := 20) rfl), List.forall_mem_cons.mpr ⟨lq_X8_sizeOf_0 (List.mem_of_getElem? (i := 21) rfl), List.forall_mem_cons.mpr ⟨lq_X8_sizeOf_0 (List.mem_of_getElem? (i := 22) rfl), List.forall_mem_cons.mpr ⟨lq_X8_sizeOf_0 (List.mem_of_getElem? (i := 23) rfl), List.forall_mem_cons.mpr ⟨lq_X8_sizeOf_1 (List.mem_of_getElem? (i := 0) rfl), List.forall_mem_cons.mpr ⟨lq_X8_sizeOf_1 (List.mem_of_getElem? (i := 1) rfl), List.forall_mem_cons.mpr ⟨lq_X8_sizeOf_1 (List.mem_of_getElem? (i := 2) rfl), List.forall_mem_cons.mpr ⟨lq_X8_sizeOf_1 (List.mem_of_getElem? (i := 3) rfl), fun _ h => absurd h List.not_mem_nil⟩⟩⟩⟩⟩⟩⟩⟩⟩⟩⟩⟩⟩⟩⟩⟩⟩⟩⟩⟩⟩⟩⟩⟩), lt_X8_sizeOf_X8⟩)⟩) (by decide +kernel)
set_option maxRecDepth 20000 in
theorem gX8_sizeOf_X8_size11 : GoodIn wsX8_sizeOf (wsV RX8 226 RX8 yX8_size11 wsX8_size11) := goodIn_app (goodIn_sub (List.forall_mem_cons.mpr ⟨lq_X8_sizeOf_0 (List.mem_of_getElem? (i := 1) rfl), List.forall_mem_cons.mpr ⟨lq_X8_sizeOf_0 (List.mem_of_getElem? (i := 2) rfl), List.forall_mem_cons.mpr ⟨lq_X8_sizeOf_0 (List.mem_of_getElem? (i := 3) rfl), List.forall_mem_cons.mpr ⟨lq_X8_sizeOf_0 (List.mem_of_getElem? (i := 4) rfl), fun _ h => absurd h List.not_mem_nil⟩⟩⟩⟩) (by decide +kernel)) ggX8_sizeOf_X8_size11
set_option maxRecDepth 20000 in
theorem ggX8_sizeOf_X8_size13 : GoodIn wsX8_sizeOf wsX8_size13 := goodIn_sub (List.forall_mem_cons.mpr ⟨lq_X8_sizeOf_1 (List.mem_of_getElem? (i := 7) rfl), (List.forall_mem_append.mpr ⟨(show ∀ w ∈ ([.methodLink RX8 211 yX8_begins, .instanceMethod yX8_begins, .selects RX8 yX8_begins yX8_begins, .initialized RX8, .code yX8_begins cX8_begins 2 none, .fieldLink RX8 208 "WinterWalkModel" "traced" "I", .fieldLink RX8 29 "WinterWalkModel" "trace" "[I", .methodLink RX8 220 yX8_size10, .instanceMethod yX8_size10, .selects RX8 yX8_size10 yX8_size10, .code yX8_size10 cX8_size10 2 (some .int), .fieldLink RX8 7 "WinterWalkModel" "slot" "[I"] : List Cond), w ∈ wsX8_sizeOf from List.forall_mem_cons.mpr ⟨lq_X8_sizeOf_0 (List.mem_of_getElem? (i := 6) rfl), List.forall_mem_cons.mpr ⟨lq_X8_sizeOf_0 (List.mem_of_getElem? (i := 7) rfl), List.forall_mem_cons.mpr ⟨lq_X8_sizeOf_0 (List.mem_of_getElem? (i := 8) rfl), List.forall_mem_cons.mpr ⟨lq_X8_sizeOf_0 (List.mem_of_getElem? (i := 4) rfl), List.forall_mem_cons.mpr ⟨lq_X8_sizeOf_0 (List.mem_of_getElem? (i := 9) rfl), List.forall_mem_cons.mpr ⟨lq_X8_sizeOf_0 (List.mem_of_getElem? (i := 10) rfl), List.forall_mem_cons.mpr ⟨lq_X8_sizeOf_0 (List.mem_of_getElem? (i := 11) rfl), List.forall_mem_cons.mpr ⟨lq_X8_sizeOf_0 (List.mem_of_getElem? (i := 12) rfl), List.forall_mem_cons.mpr ⟨lq_X8_sizeOf_0 (List.mem_of_getElem? (i := 13) rfl), List.forall_mem_cons.mpr ⟨lq_X8_sizeOf_0 (List.mem_of_getElem? (i := 14) rfl), List.forall_mem_cons.mpr ⟨lq_X8_sizeOf_0 (List.mem_of_getElem? (i := 15) rfl), List.forall_mem_cons.mpr ⟨lq_X8_sizeOf_0 (List.mem_of_getElem? (i := 0) rfl), fun _ h => absurd h List.not_mem_nil⟩⟩⟩⟩⟩⟩⟩⟩⟩⟩⟩⟩), lt_X8_sizeOf_X8⟩)⟩) (by decide +kernel)
set_option maxRecDepth 20000 in
theorem gX8_sizeOf_X8_size13 : GoodIn wsX8_sizeOf (wsV RX8 229 RX8 yX8_size13 wsX8_size13) := goodIn_app (goodIn_sub (List.forall_mem_cons.mpr ⟨lq_X8_sizeOf_1 (List.mem_of_getElem? (i := 4) rfl), List.forall_mem_cons.mpr ⟨lq_X8_sizeOf_1 (List.mem_of_getElem? (i := 5) rfl), List.forall_mem_cons.mpr ⟨lq_X8_sizeOf_1 (List.mem_of_getElem? (i := 6) rfl), List.forall_mem_cons.mpr ⟨lq_X8_sizeOf_0 (List.mem_of_getElem? (i := 4) rfl), fun _ h => absurd h List.not_mem_nil⟩⟩⟩⟩) (by decide +kernel)) ggX8_sizeOf_X8_size13
set_option maxRecDepth 20000 in
theorem ggX8_sizeOf_X8_begins : GoodIn wsX8_sizeOf wsX8_begins := goodIn_sub (List.forall_mem_cons.mpr ⟨lq_X8_sizeOf_0 (List.mem_of_getElem? (i := 9) rfl), (List.forall_mem_append.mpr ⟨(show ∀ w ∈ ([.fieldLink RX8 208 "WinterWalkModel" "traced" "I", .fieldLink RX8 29 "WinterWalkModel" "trace" "[I"] : List Cond), w ∈ wsX8_sizeOf from List.forall_mem_cons.mpr ⟨lq_X8_sizeOf_0 (List.mem_of_getElem? (i := 10) rfl), List.forall_mem_cons.mpr ⟨lq_X8_sizeOf_0 (List.mem_of_getElem? (i := 11) rfl), fun _ h => absurd h List.not_mem_nil⟩⟩), lt_X8_sizeOf_X8⟩)⟩) (by decide +kernel)
set_option maxRecDepth 20000 in
theorem gX8_sizeOf_X8_begins : GoodIn wsX8_sizeOf (wsV RX8 211 RX8 yX8_begins wsX8_begins) := goodIn_app (goodIn_sub (List.forall_mem_cons.mpr ⟨lq_X8_sizeOf_0 (List.mem_of_getElem? (i := 6) rfl), List.forall_mem_cons.mpr ⟨lq_X8_sizeOf_0 (List.mem_of_getElem? (i := 7) rfl), List.forall_mem_cons.mpr ⟨lq_X8_sizeOf_0 (List.mem_of_getElem? (i := 8) rfl), List.forall_mem_cons.mpr ⟨lq_X8_sizeOf_0 (List.mem_of_getElem? (i := 4) rfl), fun _ h => absurd h List.not_mem_nil⟩⟩⟩⟩) (by decide +kernel)) ggX8_sizeOf_X8_begins
theorem dX8_sizeOf_0 : decode cX8_sizeOf 0 = .ok (.aload_n 0, 1) := by decide +kernel
theorem dX8_sizeOf_1 : decode cX8_sizeOf 1 = .ok (.getfield 7, 3) := by decide +kernel
theorem dX8_sizeOf_4 : decode cX8_sizeOf 4 = .ok (.bipush 20, 2) := by decide +kernel
theorem dX8_sizeOf_6 : decode cX8_sizeOf 6 = .ok (.iload_n 1, 1) := by decide +kernel
theorem dX8_sizeOf_7 : decode cX8_sizeOf 7 = .ok (.iadd, 1) := by decide +kernel
theorem dX8_sizeOf_8 : decode cX8_sizeOf 8 = .ok (.iaload, 1) := by decide +kernel
theorem dX8_sizeOf_9 : decode cX8_sizeOf 9 = .ok (.istore_n 2, 1) := by decide +kernel
theorem dX8_sizeOf_10 : decode cX8_sizeOf 10 = .ok (.iload_n 2, 1) := by decide +kernel
theorem dX8_sizeOf_11 : decode cX8_sizeOf 11 = .ok (.iconst 1, 1) := by decide +kernel
theorem dX8_sizeOf_12 : decode cX8_sizeOf 12 = .ok (.if_icmp .eq 8, 3) := by decide +kernel
theorem dX8_sizeOf_15 : decode cX8_sizeOf 15 = .ok (.iload_n 2, 1) := by decide +kernel
theorem dX8_sizeOf_16 : decode cX8_sizeOf 16 = .ok (.iconst 3, 1) := by decide +kernel
theorem dX8_sizeOf_17 : decode cX8_sizeOf 17 = .ok (.if_icmp .ne 9, 3) := by decide +kernel
theorem dX8_sizeOf_20 : decode cX8_sizeOf 20 = .ok (.aload_n 0, 1) := by decide +kernel
theorem dX8_sizeOf_21 : decode cX8_sizeOf 21 = .ok (.iload_n 1, 1) := by decide +kernel
theorem dX8_sizeOf_22 : decode cX8_sizeOf 22 = .ok (.invokevirtual 226, 3) := by decide +kernel
theorem dX8_sizeOf_25 : decode cX8_sizeOf 25 = .ok (.ireturn, 1) := by decide +kernel
theorem dX8_sizeOf_26 : decode cX8_sizeOf 26 = .ok (.iload_n 2, 1) := by decide +kernel
theorem dX8_sizeOf_27 : decode cX8_sizeOf 27 = .ok (.iconst 4, 1) := by decide +kernel
theorem dX8_sizeOf_28 : decode cX8_sizeOf 28 = .ok (.if_icmp .ne 9, 3) := by decide +kernel
theorem dX8_sizeOf_31 : decode cX8_sizeOf 31 = .ok (.aload_n 0, 1) := by decide +kernel
theorem dX8_sizeOf_32 : decode cX8_sizeOf 32 = .ok (.iload_n 1, 1) := by decide +kernel
theorem dX8_sizeOf_33 : decode cX8_sizeOf 33 = .ok (.invokevirtual 229, 3) := by decide +kernel
theorem dX8_sizeOf_36 : decode cX8_sizeOf 36 = .ok (.ireturn, 1) := by decide +kernel
theorem dX8_sizeOf_37 : decode cX8_sizeOf 37 = .ok (.aload_n 0, 1) := by decide +kernel
theorem dX8_sizeOf_38 : decode cX8_sizeOf 38 = .ok (.iload_n 2, 1) := by decide +kernel
theorem dX8_sizeOf_39 : decode cX8_sizeOf 39 = .ok (.iconst 2, 1) := by decide +kernel
theorem dX8_sizeOf_40 : decode cX8_sizeOf 40 = .ok (.if_icmp .ne 8, 3) := by decide +kernel
theorem dX8_sizeOf_43 : decode cX8_sizeOf 43 = .ok (.bipush 12, 2) := by decide +kernel
theorem dX8_sizeOf_45 : decode cX8_sizeOf 45 = .ok (.goto 5, 3) := by decide +kernel
theorem dX8_sizeOf_48 : decode cX8_sizeOf 48 = .ok (.bipush 14, 2) := by decide +kernel
theorem dX8_sizeOf_50 : decode cX8_sizeOf 50 = .ok (.invokevirtual 211, 3) := by decide +kernel
theorem dX8_sizeOf_53 : decode cX8_sizeOf 53 = .ok (.iload_n 2, 1) := by decide +kernel
theorem dX8_sizeOf_54 : decode cX8_sizeOf 54 = .ok (.iconst 2, 1) := by decide +kernel
theorem dX8_sizeOf_55 : decode cX8_sizeOf 55 = .ok (.if_icmp .ne 12, 3) := by decide +kernel
theorem dX8_sizeOf_58 : decode cX8_sizeOf 58 = .ok (.aload_n 0, 1) := by decide +kernel
theorem dX8_sizeOf_59 : decode cX8_sizeOf 59 = .ok (.iload_n 1, 1) := by decide +kernel
theorem dX8_sizeOf_60 : decode cX8_sizeOf 60 = .ok (.invokevirtual 226, 3) := by decide +kernel
theorem dX8_sizeOf_63 : decode cX8_sizeOf 63 = .ok (.ineg, 1) := by decide +kernel
theorem dX8_sizeOf_64 : decode cX8_sizeOf 64 = .ok (.goto 10, 3) := by decide +kernel
theorem dX8_sizeOf_67 : decode cX8_sizeOf 67 = .ok (.iconst 2, 1) := by decide +kernel
theorem dX8_sizeOf_68 : decode cX8_sizeOf 68 = .ok (.aload_n 0, 1) := by decide +kernel
theorem dX8_sizeOf_69 : decode cX8_sizeOf 69 = .ok (.iload_n 1, 1) := by decide +kernel
theorem dX8_sizeOf_70 : decode cX8_sizeOf 70 = .ok (.invokevirtual 229, 3) := by decide +kernel
theorem dX8_sizeOf_73 : decode cX8_sizeOf 73 = .ok (.imul, 1) := by decide +kernel
theorem dX8_sizeOf_74 : decode cX8_sizeOf 74 = .ok (.ireturn, 1) := by decide +kernel
theorem lq_X8_markOf_0 {w : Cond} (h : w ∈ (wsX8_markOf_r1 : List Cond)) : w ∈ wsX8_markOf := List.mem_cons_of_mem _ (List.mem_append_left _ (List.mem_append_left _ (h)))
theorem lq_X8_markOf_1 {w : Cond} (h : w ∈ (wsX8_markOf_r2 : List Cond)) : w ∈ wsX8_markOf := List.mem_cons_of_mem _ (List.mem_append_left _ (List.mem_append_right _ (h)))
theorem lt_X8_markOf_X8 : ∀ w ∈ wsX80, w ∈ wsX8_markOf := fun _ h => List.mem_cons_of_mem _ (List.mem_append_right _ (h))
set_option maxRecDepth 20000 in
theorem ggX8_markOf_X8_markOld : GoodIn wsX8_markOf wsX8_markOld := goodIn_sub (List.forall_mem_cons.mpr ⟨lq_X8_markOf_0 (List.mem_of_getElem? (i := 5) rfl), (List.forall_mem_append.mpr ⟨(show ∀ w ∈ ([.fieldLink RX8 7 "WinterWalkModel" "slot" "[I", .methodLink RX8 217 yX8_mark21, .instanceMethod yX8_mark21, .selects RX8 yX8_mark21 yX8_mark21, .initialized RX8, .code yX8_mark21 cX8_mark21 3 (some .int), .methodLink RX8 211 yX8_begins, .instanceMethod yX8_begins, .selects RX8 yX8_begins yX8_begins, .code yX8_begins cX8_begins 2 none, .fieldLink RX8 208 "WinterWalkModel" "traced" "I", .fieldLink RX8 29 "WinterWalkModel" "trace" "[I", .methodLink RX8 214 yX8_mark20, .instanceMethod yX8_mark20, .selects RX8 yX8_mark20 yX8_mark20, .code yX8_mark20 cX8_mark20 2 (some .int)] : List Cond), w ∈ wsX8_markOf from List.forall_mem_cons.mpr ⟨lq_X8_markOf_0 (List.mem_of_getElem? (i := 0) rfl), List.forall_mem_cons.mpr ⟨lq_X8_markOf_0 (List.mem_of_getElem? (i := 6) rfl), List.forall_mem_cons.mpr ⟨lq_X8_markOf_0 (List.mem_of_getElem? (i := 7) rfl), List.forall_mem_cons.mpr ⟨lq_X8_markOf_0 (List.mem_of_getElem? (i := 8) rfl), List.forall_mem_cons.mpr ⟨lq_X8_markOf_0 (List.mem_of_getElem? (i := 4) rfl), List.forall_mem_cons.mpr ⟨lq_X8_markOf_0 (List.mem_of_getElem? (i := 9) rfl), List.forall_mem_cons.mpr ⟨lq_X8_markOf_0 (List.mem_of_getElem? (i := 10) rfl), List.forall_mem_cons.mpr ⟨lq_X8_markOf_0 (List.mem_of_getElem? (i := 11) rfl), List.forall_mem_cons.mpr ⟨lq_X8_markOf_0 (List.mem_of_getElem? (i := 12) rfl), List.forall_mem_cons.mpr ⟨lq_X8_markOf_0 (List.mem_of_getElem? (i := 13) rfl), List.forall_mem_cons.mpr ⟨lq_X8_markOf_0 (List.mem_of_getElem? (i := 14) rfl), List.forall_mem_cons.mpr ⟨lq_X8_markOf_0 (List.mem_of_getElem? (i := 15) rfl), List.forall_mem_cons.mpr ⟨lq_X8_markOf_0 (List.mem_of_getElem? (i := 16) rfl), List.forall_mem_cons.mpr ⟨lq_X8_markOf_0 (List.mem_of_getElem? (i := 17) rfl), List.forall_mem_cons.mpr ⟨lq_X8_markOf_0 (List.mem_of_getElem? (i := 18) rfl), List.forall_mem_cons.mpr ⟨lq_X8_markOf_0 (List.mem_of_getElem? (i := 19) rfl), fun _ h => absurd h List.not_mem_nil⟩⟩⟩⟩⟩⟩⟩⟩⟩⟩⟩⟩⟩⟩⟩⟩), lt_X8_markOf_X8⟩)⟩) (by decide +kernel)
set_option maxRecDepth 20000 in
theorem gX8_markOf_X8_markOld : GoodIn wsX8_markOf (wsV RX8 223 RX8 yX8_markOld wsX8_markOld) := goodIn_app (goodIn_sub (List.forall_mem_cons.mpr ⟨lq_X8_markOf_0 (List.mem_of_getElem? (i := 1) rfl), List.forall_mem_cons.mpr ⟨lq_X8_markOf_0 (List.mem_of_getElem? (i := 2) rfl), List.forall_mem_cons.mpr ⟨lq_X8_markOf_0 (List.mem_of_getElem? (i := 3) rfl), List.forall_mem_cons.mpr ⟨lq_X8_markOf_0 (List.mem_of_getElem? (i := 4) rfl), fun _ h => absurd h List.not_mem_nil⟩⟩⟩⟩) (by decide +kernel)) ggX8_markOf_X8_markOld
set_option maxRecDepth 20000 in
theorem ggX8_markOf_X8_begins : GoodIn wsX8_markOf wsX8_begins := goodIn_sub (List.forall_mem_cons.mpr ⟨lq_X8_markOf_0 (List.mem_of_getElem? (i := 13) rfl), (List.forall_mem_append.mpr ⟨(show ∀ w ∈ ([.fieldLink RX8 208 "WinterWalkModel" "traced" "I", .fieldLink RX8 29 "WinterWalkModel" "trace" "[I"] : List Cond), w ∈ wsX8_markOf from List.forall_mem_cons.mpr ⟨lq_X8_markOf_0 (List.mem_of_getElem? (i := 14) rfl), List.forall_mem_cons.mpr ⟨lq_X8_markOf_0 (List.mem_of_getElem? (i := 15) rfl), fun _ h => absurd h List.not_mem_nil⟩⟩), lt_X8_markOf_X8⟩)⟩) (by decide +kernel)
set_option maxRecDepth 20000 in
theorem gX8_markOf_X8_begins : GoodIn wsX8_markOf (wsV RX8 211 RX8 yX8_begins wsX8_begins) := goodIn_app (goodIn_sub (List.forall_mem_cons.mpr ⟨lq_X8_markOf_0 (List.mem_of_getElem? (i := 10) rfl), List.forall_mem_cons.mpr ⟨lq_X8_markOf_0 (List.mem_of_getElem? (i := 11) rfl), List.forall_mem_cons.mpr ⟨lq_X8_markOf_0 (List.mem_of_getElem? (i := 12) rfl), List.forall_mem_cons.mpr ⟨lq_X8_markOf_0 (List.mem_of_getElem? (i := 4) rfl), fun _ h => absurd h List.not_mem_nil⟩⟩⟩⟩) (by decide +kernel)) ggX8_markOf_X8_begins
set_option maxRecDepth 20000 in
theorem ggX8_markOf_X8_mark20 : GoodIn wsX8_markOf wsX8_mark20 := goodIn_sub (List.forall_mem_cons.mpr ⟨lq_X8_markOf_0 (List.mem_of_getElem? (i := 19) rfl), (List.forall_mem_append.mpr ⟨(show ∀ w ∈ ([.methodLink RX8 211 yX8_begins, .instanceMethod yX8_begins, .selects RX8 yX8_begins yX8_begins, .initialized RX8, .code yX8_begins cX8_begins 2 none, .fieldLink RX8 208 "WinterWalkModel" "traced" "I", .fieldLink RX8 29 "WinterWalkModel" "trace" "[I"] : List Cond), w ∈ wsX8_markOf from List.forall_mem_cons.mpr ⟨lq_X8_markOf_0 (List.mem_of_getElem? (i := 10) rfl), List.forall_mem_cons.mpr ⟨lq_X8_markOf_0 (List.mem_of_getElem? (i := 11) rfl), List.forall_mem_cons.mpr ⟨lq_X8_markOf_0 (List.mem_of_getElem? (i := 12) rfl), List.forall_mem_cons.mpr ⟨lq_X8_markOf_0 (List.mem_of_getElem? (i := 4) rfl), List.forall_mem_cons.mpr ⟨lq_X8_markOf_0 (List.mem_of_getElem? (i := 13) rfl), List.forall_mem_cons.mpr ⟨lq_X8_markOf_0 (List.mem_of_getElem? (i := 14) rfl), List.forall_mem_cons.mpr ⟨lq_X8_markOf_0 (List.mem_of_getElem? (i := 15) rfl), fun _ h => absurd h List.not_mem_nil⟩⟩⟩⟩⟩⟩⟩), lt_X8_markOf_X8⟩)⟩) (by decide +kernel)
set_option maxRecDepth 20000 in
theorem gX8_markOf_X8_mark20 : GoodIn wsX8_markOf (wsV RX8 214 RX8 yX8_mark20 wsX8_mark20) := goodIn_app (goodIn_sub (List.forall_mem_cons.mpr ⟨lq_X8_markOf_0 (List.mem_of_getElem? (i := 16) rfl), List.forall_mem_cons.mpr ⟨lq_X8_markOf_0 (List.mem_of_getElem? (i := 17) rfl), List.forall_mem_cons.mpr ⟨lq_X8_markOf_0 (List.mem_of_getElem? (i := 18) rfl), List.forall_mem_cons.mpr ⟨lq_X8_markOf_0 (List.mem_of_getElem? (i := 4) rfl), fun _ h => absurd h List.not_mem_nil⟩⟩⟩⟩) (by decide +kernel)) ggX8_markOf_X8_mark20
set_option maxRecDepth 20000 in
theorem ggX8_markOf_X8_sizeOf : GoodIn wsX8_markOf wsX8_sizeOf := goodIn_sub (List.forall_mem_cons.mpr ⟨lq_X8_markOf_0 (List.mem_of_getElem? (i := 23) rfl), (List.forall_mem_append.mpr ⟨(List.forall_mem_append.mpr ⟨(show ∀ w ∈ (wsX8_sizeOf_r1 : List Cond), w ∈ wsX8_markOf from List.forall_mem_cons.mpr ⟨lq_X8_markOf_0 (List.mem_of_getElem? (i := 0) rfl), List.forall_mem_cons.mpr ⟨lq_X8_markOf_1 (List.mem_of_getElem? (i := 0) rfl), List.forall_mem_cons.mpr ⟨lq_X8_markOf_1 (List.mem_of_getElem? (i := 1) rfl), List.forall_mem_cons.mpr ⟨lq_X8_markOf_1 (List.mem_of_getElem? (i := 2) rfl), List.forall_mem_cons.mpr ⟨lq_X8_markOf_0 (List.mem_of_getElem? (i := 4) rfl), List.forall_mem_cons.mpr ⟨lq_X8_markOf_1 (List.mem_of_getElem? (i := 3) rfl), List.forall_mem_cons.mpr ⟨lq_X8_markOf_0 (List.mem_of_getElem? (i := 10) rfl), List.forall_mem_cons.mpr ⟨lq_X8_markOf_0 (List.mem_of_getElem? (i := 11) rfl), List.forall_mem_cons.mpr ⟨lq_X8_markOf_0 (List.mem_of_getElem? (i := 12) rfl), List.forall_mem_cons.mpr ⟨lq_X8_markOf_0 (List.mem_of_getElem? (i := 13) rfl), List.forall_mem_cons.mpr ⟨lq_X8_markOf_0 (List.mem_of_getElem? (i := 14) rfl), List.forall_mem_cons.mpr ⟨lq_X8_markOf_0 (List.mem_of_getElem? (i := 15) rfl), List.forall_mem_cons.mpr ⟨lq_X8_markOf_1 (List.mem_of_getElem? (i := 4) rfl), List.forall_mem_cons.mpr ⟨lq_X8_markOf_1 (List.mem_of_getElem? (i := 5) rfl), List.forall_mem_cons.mpr ⟨lq_X8_markOf_1 (List.mem_of_getElem? (i := 6) rfl), List.forall_mem_cons.mpr ⟨lq_X8_markOf_1 (List.mem_of_getElem? (i := 7) rfl), List.forall_mem_cons.mpr ⟨lq_X8_markOf_0 (List.mem_of_getElem? (i := 1) rfl), List.forall_mem_cons.mpr ⟨lq_X8_markOf_0 (List.mem_of_getElem? (i := 2) rfl), List.forall_mem_cons.mpr ⟨lq_X8_markOf_0 (List.mem_of_getElem? (i := 3) rfl), List.forall_mem_cons.mpr ⟨lq_X8_markOf_0 (List.mem_of_getElem? (i := 5) rfl), List.forall_mem_cons.mpr ⟨lq_X8_markOf_0 (List.mem_of_getElem? (i := 6) rfl), List.forall_mem_cons.mpr ⟨lq_X8_markOf_0 (List.mem_of_getElem? (i := 7) rfl), List.forall_mem_cons.mpr ⟨lq_X8_markOf_0 (List.mem_of_getElem? (i := 8) rfl), List.forall_mem_cons.mpr ⟨lq_X8_markOf_0 (List.mem_of_getElem? (i := 9) rfl), fun _ h => absurd h List.not_mem_nil⟩⟩⟩⟩⟩⟩⟩⟩⟩⟩⟩⟩⟩⟩⟩⟩⟩⟩⟩⟩⟩⟩⟩⟩), (show ∀ w ∈ (wsX8_sizeOf_r2 : List Cond), w ∈ wsX8_markOf from List.forall_mem_cons.mpr ⟨lq_X8_markOf_0 (List.mem_of_getElem? (i := 16) rfl), List.forall_mem_cons.mpr ⟨lq_X8_markOf_0 (List.mem_of_getElem? (i := 17) rfl), List.forall_mem_cons.mpr ⟨lq_X8_markOf_0 (List.mem_of_getElem? (i := 18) rfl), List.forall_mem_cons.mpr ⟨lq_X8_markOf_0 (List.mem_of_getElem? (i := 19) rfl), List.forall_mem_cons.mpr ⟨lq_X8_markOf_1 (List.mem_of_getElem? (i := 8) rfl), List.forall_mem_cons.mpr ⟨lq_X8_markOf_1 (List.mem_of_getElem? (i := 9) rfl), List.forall_mem_cons.mpr ⟨lq_X8_markOf_1 (List.mem_of_getElem? (i := 10) rfl), List.forall_mem_cons.mpr ⟨lq_X8_markOf_1 (List.mem_of_getElem? (i := 11) rfl), fun _ h => absurd h List.not_mem_nil⟩⟩⟩⟩⟩⟩⟩⟩)⟩), lt_X8_markOf_X8⟩)⟩) (by decide +kernel)
set_option maxRecDepth 20000 in
theorem gX8_markOf_X8_sizeOf : GoodIn wsX8_markOf (wsV RX8 232 RX8 yX8_sizeOf wsX8_sizeOf) := goodIn_app (goodIn_sub (List.forall_mem_cons.mpr ⟨lq_X8_markOf_0 (List.mem_of_getElem? (i := 20) rfl), List.forall_mem_cons.mpr ⟨lq_X8_markOf_0 (List.mem_of_getElem? (i := 21) rfl), List.forall_mem_cons.mpr ⟨lq_X8_markOf_0 (List.mem_of_getElem? (i := 22) rfl), List.forall_mem_cons.mpr ⟨lq_X8_markOf_0 (List.mem_of_getElem? (i := 4) rfl), fun _ h => absurd h List.not_mem_nil⟩⟩⟩⟩) (by decide +kernel)) ggX8_markOf_X8_sizeOf
theorem dX8_markOf_0 : decode cX8_markOf 0 = .ok (.aload_n 0, 1) := by decide +kernel
theorem dX8_markOf_1 : decode cX8_markOf 1 = .ok (.getfield 7, 3) := by decide +kernel
theorem dX8_markOf_4 : decode cX8_markOf 4 = .ok (.bipush 20, 2) := by decide +kernel
theorem dX8_markOf_6 : decode cX8_markOf 6 = .ok (.iload_n 1, 1) := by decide +kernel
theorem dX8_markOf_7 : decode cX8_markOf 7 = .ok (.iadd, 1) := by decide +kernel
theorem dX8_markOf_8 : decode cX8_markOf 8 = .ok (.iaload, 1) := by decide +kernel
theorem dX8_markOf_9 : decode cX8_markOf 9 = .ok (.iconst 4, 1) := by decide +kernel
theorem dX8_markOf_10 : decode cX8_markOf 10 = .ok (.if_icmp .ge 9, 3) := by decide +kernel
theorem dX8_markOf_13 : decode cX8_markOf 13 = .ok (.aload_n 0, 1) := by decide +kernel
theorem dX8_markOf_14 : decode cX8_markOf 14 = .ok (.iload_n 1, 1) := by decide +kernel
theorem dX8_markOf_15 : decode cX8_markOf 15 = .ok (.invokevirtual 223, 3) := by decide +kernel
theorem dX8_markOf_18 : decode cX8_markOf 18 = .ok (.ireturn, 1) := by decide +kernel
theorem dX8_markOf_19 : decode cX8_markOf 19 = .ok (.aload_n 0, 1) := by decide +kernel
theorem dX8_markOf_20 : decode cX8_markOf 20 = .ok (.bipush 23, 2) := by decide +kernel
theorem dX8_markOf_22 : decode cX8_markOf 22 = .ok (.invokevirtual 211, 3) := by decide +kernel
theorem dX8_markOf_25 : decode cX8_markOf 25 = .ok (.aload_n 0, 1) := by decide +kernel
theorem dX8_markOf_26 : decode cX8_markOf 26 = .ok (.iload_n 1, 1) := by decide +kernel
theorem dX8_markOf_27 : decode cX8_markOf 27 = .ok (.invokevirtual 214, 3) := by decide +kernel
theorem dX8_markOf_30 : decode cX8_markOf 30 = .ok (.istore_n 2, 1) := by decide +kernel
theorem dX8_markOf_31 : decode cX8_markOf 31 = .ok (.iload_n 2, 1) := by decide +kernel
theorem dX8_markOf_32 : decode cX8_markOf 32 = .ok (.aload_n 0, 1) := by decide +kernel
theorem dX8_markOf_33 : decode cX8_markOf 33 = .ok (.iload_n 1, 1) := by decide +kernel
theorem dX8_markOf_34 : decode cX8_markOf 34 = .ok (.invokevirtual 232, 3) := by decide +kernel
theorem dX8_markOf_37 : decode cX8_markOf 37 = .ok (.isub, 1) := by decide +kernel
theorem dX8_markOf_38 : decode cX8_markOf 38 = .ok (.ireturn, 1) := by decide +kernel
theorem lq_X8_ask_0 {w : Cond} (h : w ∈ (wsX8_ask_r1 : List Cond)) : w ∈ wsX8_ask := List.mem_cons_of_mem _ (List.mem_append_left _ (List.mem_append_left _ (h)))
theorem lq_X8_ask_1 {w : Cond} (h : w ∈ (wsX8_ask_r2 : List Cond)) : w ∈ wsX8_ask := List.mem_cons_of_mem _ (List.mem_append_left _ (List.mem_append_right _ (h)))
theorem lt_X8_ask_X8 : ∀ w ∈ wsX80, w ∈ wsX8_ask := fun _ h => List.mem_cons_of_mem _ (List.mem_append_right _ (h))
set_option maxRecDepth 20000 in
theorem ggX8_ask_X8_isWalkerThere : GoodIn wsX8_ask wsX8_isWalkerThere := goodIn_sub (List.forall_mem_cons.mpr ⟨lq_X8_ask_0 (List.mem_of_getElem? (i := 6) rfl), (List.forall_mem_append.mpr ⟨(show ∀ w ∈ ([.fieldLink RX8 7 "WinterWalkModel" "slot" "[I", .methodLink RX8 42 yX8_in, .static yX8_in, .initialized RX8, .code yX8_in cX8_in 6 (some .boolean)] : List Cond), w ∈ wsX8_ask from List.forall_mem_cons.mpr ⟨lq_X8_ask_0 (List.mem_of_getElem? (i := 7) rfl), List.forall_mem_cons.mpr ⟨lq_X8_ask_0 (List.mem_of_getElem? (i := 8) rfl), List.forall_mem_cons.mpr ⟨lq_X8_ask_0 (List.mem_of_getElem? (i := 9) rfl), List.forall_mem_cons.mpr ⟨lq_X8_ask_0 (List.mem_of_getElem? (i := 5) rfl), List.forall_mem_cons.mpr ⟨lq_X8_ask_0 (List.mem_of_getElem? (i := 10) rfl), fun _ h => absurd h List.not_mem_nil⟩⟩⟩⟩⟩), lt_X8_ask_X8⟩)⟩) (by decide +kernel)
set_option maxRecDepth 20000 in
theorem gX8_ask_X8_isWalkerThere : GoodIn wsX8_ask (wsV RX8 157 RX8 yX8_isWalkerThere wsX8_isWalkerThere) := goodIn_app (goodIn_sub (List.forall_mem_cons.mpr ⟨lq_X8_ask_0 (List.mem_of_getElem? (i := 2) rfl), List.forall_mem_cons.mpr ⟨lq_X8_ask_0 (List.mem_of_getElem? (i := 3) rfl), List.forall_mem_cons.mpr ⟨lq_X8_ask_0 (List.mem_of_getElem? (i := 4) rfl), List.forall_mem_cons.mpr ⟨lq_X8_ask_0 (List.mem_of_getElem? (i := 5) rfl), fun _ h => absurd h List.not_mem_nil⟩⟩⟩⟩) (by decide +kernel)) ggX8_ask_X8_isWalkerThere
set_option maxRecDepth 20000 in
theorem ggX8_ask_X8_in : GoodIn wsX8_ask wsX8_in := goodIn_sub (List.forall_mem_cons.mpr ⟨lq_X8_ask_0 (List.mem_of_getElem? (i := 10) rfl), (show ∀ w ∈ ([] : List Cond), w ∈ wsX8_ask from fun _ h => absurd h List.not_mem_nil)⟩) (by decide +kernel)
set_option maxRecDepth 20000 in
theorem gX8_ask_X8_in : GoodIn wsX8_ask (va_wsS RX8 42 yX8_in wsX8_in) := goodIn_app (goodIn_sub (List.forall_mem_cons.mpr ⟨lq_X8_ask_0 (List.mem_of_getElem? (i := 8) rfl), List.forall_mem_cons.mpr ⟨lq_X8_ask_0 (List.mem_of_getElem? (i := 9) rfl), List.forall_mem_cons.mpr ⟨lq_X8_ask_0 (List.mem_of_getElem? (i := 5) rfl), fun _ h => absurd h List.not_mem_nil⟩⟩⟩) (by decide +kernel)) ggX8_ask_X8_in
set_option maxRecDepth 20000 in
theorem ggX8_ask_X8_sizeOf : GoodIn wsX8_ask wsX8_sizeOf := goodIn_sub (List.forall_mem_cons.mpr ⟨lq_X8_ask_0 (List.mem_of_getElem? (i := 14) rfl), (List.forall_mem_append.mpr ⟨(List.forall_mem_append.mpr ⟨(show ∀ w ∈ (wsX8_sizeOf_r1 : List Cond), w ∈ wsX8_ask from List.forall_mem_cons.mpr ⟨lq_X8_ask_0 (List.mem_of_getElem? (i := 7) rfl), List.forall_mem_cons.mpr ⟨lq_X8_ask_0 (List.mem_of_getElem? (i := 15) rfl), List.forall_mem_cons.mpr ⟨lq_X8_ask_0 (List.mem_of_getElem? (i := 16) rfl), List.forall_mem_cons.mpr ⟨lq_X8_ask_0 (List.mem_of_getElem? (i := 17) rfl), List.forall_mem_cons.mpr ⟨lq_X8_ask_0 (List.mem_of_getElem? (i := 5) rfl), List.forall_mem_cons.mpr ⟨lq_X8_ask_0 (List.mem_of_getElem? (i := 18) rfl), List.forall_mem_cons.mpr ⟨lq_X8_ask_0 (List.mem_of_getElem? (i := 19) rfl), List.forall_mem_cons.mpr ⟨lq_X8_ask_0 (List.mem_of_getElem? (i := 20) rfl), List.forall_mem_cons.mpr ⟨lq_X8_ask_0 (List.mem_of_getElem? (i := 21) rfl), List.forall_mem_cons.mpr ⟨lq_X8_ask_0 (List.mem_of_getElem? (i := 22) rfl), List.forall_mem_cons.mpr ⟨lq_X8_ask_0 (List.mem_of_getElem? (i := 1) rfl), List.forall_mem_cons.mpr ⟨lq_X8_ask_0 (List.mem_of_getElem? (i := 23) rfl), List.forall_mem_cons.mpr ⟨lq_X8_ask_1 (List.mem_of_getElem? (i := 0) rfl), List.forall_mem_cons.mpr ⟨lq_X8_ask_1 (List.mem_of_getElem? (i := 1) rfl), List.forall_mem_cons.mpr ⟨lq_X8_ask_1 (List.mem_of_getElem? (i := 2) rfl), List.forall_mem_cons.mpr ⟨lq_X8_ask_1 (List.mem_of_getElem? (i := 3) rfl), List.forall_mem_cons.mpr ⟨lq_X8_ask_1 (List.mem_of_getElem? (i := 4) rfl), List.forall_mem_cons.mpr ⟨lq_X8_ask_1 (List.mem_of_getElem? (i := 5) rfl), List.forall_mem_cons.mpr ⟨lq_X8_ask_1 (List.mem_of_getElem? (i := 6) rfl), List.forall_mem_cons.mpr ⟨lq_X8_ask_1 (List.mem_of_getElem? (i := 7) rfl), List.forall_mem_cons.mpr ⟨lq_X8_ask_1 (List.mem_of_getElem? (i := 8) rfl), List.forall_mem_cons.mpr ⟨lq_X8_ask_1 (List.mem_of_getElem? (i := 9) rfl), List.forall_mem_cons.mpr ⟨lq_X8_ask_1 (List.mem_of_getElem? (i := 10) rfl), List.forall_mem_cons.mpr ⟨lq_X8_ask_1 (List.mem_of_getElem? (i := 11) rfl), fun _ h => absurd h List.not_mem_nil⟩⟩⟩⟩⟩⟩⟩⟩⟩⟩⟩⟩⟩⟩⟩⟩⟩⟩⟩⟩⟩⟩⟩⟩), (show ∀ w ∈ (wsX8_sizeOf_r2 : List Cond), w ∈ wsX8_ask from List.forall_mem_cons.mpr ⟨lq_X8_ask_1 (List.mem_of_getElem? (i := 12) rfl), List.forall_mem_cons.mpr ⟨lq_X8_ask_1 (List.mem_of_getElem? (i := 13) rfl), List.forall_mem_cons.mpr ⟨lq_X8_ask_1 (List.mem_of_getElem? (i := 14) rfl), List.forall_mem_cons.mpr ⟨lq_X8_ask_1 (List.mem_of_getElem? (i := 15) rfl), List.forall_mem_cons.mpr ⟨lq_X8_ask_1 (List.mem_of_getElem? (i := 16) rfl), List.forall_mem_cons.mpr ⟨lq_X8_ask_1 (List.mem_of_getElem? (i := 17) rfl), List.forall_mem_cons.mpr ⟨lq_X8_ask_1 (List.mem_of_getElem? (i := 18) rfl), List.forall_mem_cons.mpr ⟨lq_X8_ask_1 (List.mem_of_getElem? (i := 19) rfl), fun _ h => absurd h List.not_mem_nil⟩⟩⟩⟩⟩⟩⟩⟩)⟩), lt_X8_ask_X8⟩)⟩) (by decide +kernel)
set_option maxRecDepth 20000 in
theorem gX8_ask_X8_sizeOf : GoodIn wsX8_ask (wsV RX8 232 RX8 yX8_sizeOf wsX8_sizeOf) := goodIn_app (goodIn_sub (List.forall_mem_cons.mpr ⟨lq_X8_ask_0 (List.mem_of_getElem? (i := 11) rfl), List.forall_mem_cons.mpr ⟨lq_X8_ask_0 (List.mem_of_getElem? (i := 12) rfl), List.forall_mem_cons.mpr ⟨lq_X8_ask_0 (List.mem_of_getElem? (i := 13) rfl), List.forall_mem_cons.mpr ⟨lq_X8_ask_0 (List.mem_of_getElem? (i := 5) rfl), fun _ h => absurd h List.not_mem_nil⟩⟩⟩⟩) (by decide +kernel)) ggX8_ask_X8_sizeOf
set_option maxRecDepth 20000 in
theorem ggX8_ask_X8_markOf : GoodIn wsX8_ask wsX8_markOf := goodIn_sub (List.forall_mem_cons.mpr ⟨lq_X8_ask_1 (List.mem_of_getElem? (i := 23) rfl), (List.forall_mem_append.mpr ⟨(List.forall_mem_append.mpr ⟨(show ∀ w ∈ (wsX8_markOf_r1 : List Cond), w ∈ wsX8_ask from List.forall_mem_cons.mpr ⟨lq_X8_ask_0 (List.mem_of_getElem? (i := 7) rfl), List.forall_mem_cons.mpr ⟨lq_X8_ask_1 (List.mem_of_getElem? (i := 4) rfl), List.forall_mem_cons.mpr ⟨lq_X8_ask_1 (List.mem_of_getElem? (i := 5) rfl), List.forall_mem_cons.mpr ⟨lq_X8_ask_1 (List.mem_of_getElem? (i := 6) rfl), List.forall_mem_cons.mpr ⟨lq_X8_ask_0 (List.mem_of_getElem? (i := 5) rfl), List.forall_mem_cons.mpr ⟨lq_X8_ask_1 (List.mem_of_getElem? (i := 7) rfl), List.forall_mem_cons.mpr ⟨lq_X8_ask_1 (List.mem_of_getElem? (i := 8) rfl), List.forall_mem_cons.mpr ⟨lq_X8_ask_1 (List.mem_of_getElem? (i := 9) rfl), List.forall_mem_cons.mpr ⟨lq_X8_ask_1 (List.mem_of_getElem? (i := 10) rfl), List.forall_mem_cons.mpr ⟨lq_X8_ask_1 (List.mem_of_getElem? (i := 11) rfl), List.forall_mem_cons.mpr ⟨lq_X8_ask_0 (List.mem_of_getElem? (i := 19) rfl), List.forall_mem_cons.mpr ⟨lq_X8_ask_0 (List.mem_of_getElem? (i := 20) rfl), List.forall_mem_cons.mpr ⟨lq_X8_ask_0 (List.mem_of_getElem? (i := 21) rfl), List.forall_mem_cons.mpr ⟨lq_X8_ask_0 (List.mem_of_getElem? (i := 22) rfl), List.forall_mem_cons.mpr ⟨lq_X8_ask_0 (List.mem_of_getElem? (i := 1) rfl), List.forall_mem_cons.mpr ⟨lq_X8_ask_0 (List.mem_of_getElem? (i := 23) rfl), List.forall_mem_cons.mpr ⟨lq_X8_ask_1 (List.mem_of_getElem? (i := 12) rfl), List.forall_mem_cons.mpr ⟨lq_X8_ask_1 (List.mem_of_getElem? (i := 13) rfl), List.forall_mem_cons.mpr ⟨lq_X8_ask_1 (List.mem_of_getElem? (i := 14) rfl), List.forall_mem_cons.mpr ⟨lq_X8_ask_1 (List.mem_of_getElem? (i := 15) rfl), List.forall_mem_cons.mpr ⟨lq_X8_ask_0 (List.mem_of_getElem? (i := 11) rfl), List.forall_mem_cons.mpr ⟨lq_X8_ask_0 (List.mem_of_getElem? (i := 12) rfl), List.forall_mem_cons.mpr ⟨lq_X8_ask_0 (List.mem_of_getElem? (i := 13) rfl), List.forall_mem_cons.mpr ⟨lq_X8_ask_0 (List.mem_of_getElem? (i := 14) rfl), fun _ h => absurd h List.not_mem_nil⟩⟩⟩⟩⟩⟩⟩⟩⟩⟩⟩⟩⟩⟩⟩⟩⟩⟩⟩⟩⟩⟩⟩⟩), (show ∀ w ∈ (wsX8_markOf_r2 : List Cond), w ∈ wsX8_ask from List.forall_mem_cons.mpr ⟨lq_X8_ask_0 (List.mem_of_getElem? (i := 15) rfl), List.forall_mem_cons.mpr ⟨lq_X8_ask_0 (List.mem_of_getElem? (i := 16) rfl), List.forall_mem_cons.mpr ⟨lq_X8_ask_0 (List.mem_of_getElem? (i := 17) rfl), List.forall_mem_cons.mpr ⟨lq_X8_ask_0 (List.mem_of_getElem? (i := 18) rfl), List.forall_mem_cons.mpr ⟨lq_X8_ask_1 (List.mem_of_getElem? (i := 0) rfl), List.forall_mem_cons.mpr ⟨lq_X8_ask_1 (List.mem_of_getElem? (i := 1) rfl), List.forall_mem_cons.mpr ⟨lq_X8_ask_1 (List.mem_of_getElem? (i := 2) rfl), List.forall_mem_cons.mpr ⟨lq_X8_ask_1 (List.mem_of_getElem? (i := 3) rfl), List.forall_mem_cons.mpr ⟨lq_X8_ask_1 (List.mem_of_getElem? (i := 16) rfl), List.forall_mem_cons.mpr ⟨lq_X8_ask_1 (List.mem_of_getElem? (i := 17) rfl), List.forall_mem_cons.mpr ⟨lq_X8_ask_1 (List.mem_of_getElem? (i := 18) rfl), List.forall_mem_cons.mpr ⟨lq_X8_ask_1 (List.mem_of_getElem? (i := 19) rfl), fun _ h => absurd h List.not_mem_nil⟩⟩⟩⟩⟩⟩⟩⟩⟩⟩⟩⟩)⟩), lt_X8_ask_X8⟩)⟩) (by decide +kernel)
set_option maxRecDepth 20000 in
theorem gX8_ask_X8_markOf : GoodIn wsX8_ask (wsV RX8 235 RX8 yX8_markOf wsX8_markOf) := goodIn_app (goodIn_sub (List.forall_mem_cons.mpr ⟨lq_X8_ask_1 (List.mem_of_getElem? (i := 20) rfl), List.forall_mem_cons.mpr ⟨lq_X8_ask_1 (List.mem_of_getElem? (i := 21) rfl), List.forall_mem_cons.mpr ⟨lq_X8_ask_1 (List.mem_of_getElem? (i := 22) rfl), List.forall_mem_cons.mpr ⟨lq_X8_ask_0 (List.mem_of_getElem? (i := 5) rfl), fun _ h => absurd h List.not_mem_nil⟩⟩⟩⟩) (by decide +kernel)) ggX8_ask_X8_markOf
theorem dX8_ask_0 : decode cX8_ask 0 = .ok (.aload_n 0, 1) := by decide +kernel
theorem dX8_ask_1 : decode cX8_ask 1 = .ok (.iload_n 1, 1) := by decide +kernel
theorem dX8_ask_2 : decode cX8_ask 2 = .ok (.invokevirtual 157, 3) := by decide +kernel
theorem dX8_ask_5 : decode cX8_ask 5 = .ok (.ifCond .eq 13, 3) := by decide +kernel
theorem dX8_ask_8 : decode cX8_ask 8 = .ok (.iload_n 2, 1) := by decide +kernel
theorem dX8_ask_9 : decode cX8_ask 9 = .ok (.i2l, 1) := by decide +kernel
theorem dX8_ask_10 : decode cX8_ask 10 = .ok (.lconst 0, 1) := by decide +kernel
theorem dX8_ask_11 : decode cX8_ask 11 = .ok (.lconst 1, 1) := by decide +kernel
theorem dX8_ask_12 : decode cX8_ask 12 = .ok (.invokestatic 42, 3) := by decide +kernel
theorem dX8_ask_15 : decode cX8_ask 15 = .ok (.ifCond .ne 6, 3) := by decide +kernel
theorem dX8_ask_18 : decode cX8_ask 18 = .ok (.ldc 48, 2) := by decide +kernel
theorem dX8_ask_20 : decode cX8_ask 20 = .ok (.ireturn, 1) := by decide +kernel
theorem dX8_ask_21 : decode cX8_ask 21 = .ok (.aload_n 0, 1) := by decide +kernel
theorem dX8_ask_22 : decode cX8_ask 22 = .ok (.iconst 0, 1) := by decide +kernel
theorem dX8_ask_23 : decode cX8_ask 23 = .ok (.putfield 208, 3) := by decide +kernel
theorem dX8_ask_26 : decode cX8_ask 26 = .ok (.iload_n 2, 1) := by decide +kernel
theorem dX8_ask_27 : decode cX8_ask 27 = .ok (.ifCond .ne 11, 3) := by decide +kernel
theorem dX8_ask_30 : decode cX8_ask 30 = .ok (.aload_n 0, 1) := by decide +kernel
theorem dX8_ask_31 : decode cX8_ask 31 = .ok (.iload_n 1, 1) := by decide +kernel
theorem dX8_ask_32 : decode cX8_ask 32 = .ok (.invokevirtual 232, 3) := by decide +kernel
theorem dX8_ask_35 : decode cX8_ask 35 = .ok (.goto 8, 3) := by decide +kernel
theorem dX8_ask_38 : decode cX8_ask 38 = .ok (.aload_n 0, 1) := by decide +kernel
theorem dX8_ask_39 : decode cX8_ask 39 = .ok (.iload_n 1, 1) := by decide +kernel
theorem dX8_ask_40 : decode cX8_ask 40 = .ok (.invokevirtual 235, 3) := by decide +kernel
theorem dX8_ask_43 : decode cX8_ask 43 = .ok (.ireturn, 1) := by decide +kernel
theorem lq_X8_trace_0 {w : Cond} (h : w ∈ ([.fieldLink RX8 208 "WinterWalkModel" "traced" "I", .fieldLink RX8 29 "WinterWalkModel" "trace" "[I", .constant RX8 99 (-1000000), .methodLink RX8 42 yX8_in, .static yX8_in, .initialized RX8, .code yX8_in cX8_in 6 (some .boolean)] : List Cond)) : w ∈ wsX8_trace := List.mem_cons_of_mem _ (List.mem_append_left _ (h))
theorem lt_X8_trace_X8 : ∀ w ∈ wsX80, w ∈ wsX8_trace := fun _ h => List.mem_cons_of_mem _ (List.mem_append_right _ (h))
set_option maxRecDepth 20000 in
theorem ggX8_trace_X8_in : GoodIn wsX8_trace wsX8_in := goodIn_sub (List.forall_mem_cons.mpr ⟨lq_X8_trace_0 (List.mem_of_getElem? (i := 6) rfl), (show ∀ w ∈ ([] : List Cond), w ∈ wsX8_trace from fun _ h => absurd h List.not_mem_nil)⟩) (by decide +kernel)
set_option maxRecDepth 20000 in
theorem gX8_trace_X8_in : GoodIn wsX8_trace (va_wsS RX8 42 yX8_in wsX8_in) := goodIn_app (goodIn_sub (List.forall_mem_cons.mpr ⟨lq_X8_trace_0 (List.mem_of_getElem? (i := 3) rfl), List.forall_mem_cons.mpr ⟨lq_X8_trace_0 (List.mem_of_getElem? (i := 4) rfl), List.forall_mem_cons.mpr ⟨lq_X8_trace_0 (List.mem_of_getElem? (i := 5) rfl), fun _ h => absurd h List.not_mem_nil⟩⟩⟩) (by decide +kernel)) ggX8_trace_X8_in
theorem dX8_trace_0 : decode cX8_trace 0 = .ok (.iload_n 1, 1) := by decide +kernel
theorem dX8_trace_1 : decode cX8_trace 1 = .ok (.i2l, 1) := by decide +kernel
theorem dX8_trace_2 : decode cX8_trace 2 = .ok (.lconst 0, 1) := by decide +kernel
theorem dX8_trace_3 : decode cX8_trace 3 = .ok (.aload_n 0, 1) := by decide +kernel
theorem dX8_trace_4 : decode cX8_trace 4 = .ok (.getfield 208, 3) := by decide +kernel
theorem dX8_trace_7 : decode cX8_trace 7 = .ok (.iconst 1, 1) := by decide +kernel
theorem dX8_trace_8 : decode cX8_trace 8 = .ok (.isub, 1) := by decide +kernel
theorem dX8_trace_9 : decode cX8_trace 9 = .ok (.i2l, 1) := by decide +kernel
theorem dX8_trace_10 : decode cX8_trace 10 = .ok (.invokestatic 42, 3) := by decide +kernel
theorem dX8_trace_13 : decode cX8_trace 13 = .ok (.ifCond .eq 12, 3) := by decide +kernel
theorem dX8_trace_16 : decode cX8_trace 16 = .ok (.aload_n 0, 1) := by decide +kernel
theorem dX8_trace_17 : decode cX8_trace 17 = .ok (.getfield 29, 3) := by decide +kernel
theorem dX8_trace_20 : decode cX8_trace 20 = .ok (.iload_n 1, 1) := by decide +kernel
theorem dX8_trace_21 : decode cX8_trace 21 = .ok (.iaload, 1) := by decide +kernel
theorem dX8_trace_22 : decode cX8_trace 22 = .ok (.goto 5, 3) := by decide +kernel
theorem dX8_trace_25 : decode cX8_trace 25 = .ok (.ldc 99, 2) := by decide +kernel
theorem dX8_trace_27 : decode cX8_trace 27 = .ok (.ireturn, 1) := by decide +kernel
theorem lq_X8_count_0 {w : Cond} (h : w ∈ ([.constantLong RX8 238 (8), .constant RX8 48 (-1000001), .fieldLink RX8 13 "WinterWalkModel" "size" "[I", .fieldLink RX8 7 "WinterWalkModel" "slot" "[I", .fieldLink RX8 118 "WinterWalkModel" "acts" "I", .fieldLink RX8 58 "WinterWalkModel" "length" "I", .methodLink RX8 42 yX8_in, .static yX8_in, .initialized RX8, .code yX8_in cX8_in 6 (some .boolean)] : List Cond)) : w ∈ wsX8_count := List.mem_cons_of_mem _ (List.mem_append_left _ (h))
theorem lt_X8_count_X8 : ∀ w ∈ wsX80, w ∈ wsX8_count := fun _ h => List.mem_cons_of_mem _ (List.mem_append_right _ (h))
set_option maxRecDepth 20000 in
theorem ggX8_count_X8_in : GoodIn wsX8_count wsX8_in := goodIn_sub (List.forall_mem_cons.mpr ⟨lq_X8_count_0 (List.mem_of_getElem? (i := 9) rfl), (show ∀ w ∈ ([] : List Cond), w ∈ wsX8_count from fun _ h => absurd h List.not_mem_nil)⟩) (by decide +kernel)
set_option maxRecDepth 20000 in
theorem gX8_count_X8_in : GoodIn wsX8_count (va_wsS RX8 42 yX8_in wsX8_in) := goodIn_app (goodIn_sub (List.forall_mem_cons.mpr ⟨lq_X8_count_0 (List.mem_of_getElem? (i := 6) rfl), List.forall_mem_cons.mpr ⟨lq_X8_count_0 (List.mem_of_getElem? (i := 7) rfl), List.forall_mem_cons.mpr ⟨lq_X8_count_0 (List.mem_of_getElem? (i := 8) rfl), fun _ h => absurd h List.not_mem_nil⟩⟩⟩) (by decide +kernel)) ggX8_count_X8_in
theorem dX8_count_0 : decode cX8_count 0 = .ok (.iload_n 1, 1) := by decide +kernel
theorem dX8_count_1 : decode cX8_count 1 = .ok (.i2l, 1) := by decide +kernel
theorem dX8_count_2 : decode cX8_count 2 = .ok (.lconst 0, 1) := by decide +kernel
theorem dX8_count_3 : decode cX8_count 3 = .ok (.ldc2_w 238, 3) := by decide +kernel
theorem dX8_count_6 : decode cX8_count 6 = .ok (.invokestatic 42, 3) := by decide +kernel
theorem dX8_count_9 : decode cX8_count 9 = .ok (.ifCond .ne 6, 3) := by decide +kernel
theorem dX8_count_12 : decode cX8_count 12 = .ok (.ldc 48, 2) := by decide +kernel
theorem dX8_count_14 : decode cX8_count 14 = .ok (.ireturn, 1) := by decide +kernel
theorem dX8_count_15 : decode cX8_count 15 = .ok (.iconst 0, 1) := by decide +kernel
theorem dX8_count_16 : decode cX8_count 16 = .ok (.istore_n 2, 1) := by decide +kernel
theorem dX8_count_17 : decode cX8_count 17 = .ok (.iload_n 1, 1) := by decide +kernel
theorem dX8_count_18 : decode cX8_count 18 = .ok (.tableswitch 129 0 7 #[46, 79, 86, 93, 100, 108, 116, 124], 46) := by decide +kernel
theorem dX8_count_64 : decode cX8_count 64 = .ok (.iconst 0, 1) := by decide +kernel
theorem dX8_count_65 : decode cX8_count 65 = .ok (.istore_n 3, 1) := by decide +kernel
theorem dX8_count_66 : decode cX8_count 66 = .ok (.iload_n 3, 1) := by decide +kernel
theorem dX8_count_67 : decode cX8_count 67 = .ok (.bipush 8, 2) := by decide +kernel
theorem dX8_count_69 : decode cX8_count 69 = .ok (.if_icmp .ge 26, 3) := by decide +kernel
theorem dX8_count_72 : decode cX8_count 72 = .ok (.iload_n 2, 1) := by decide +kernel
theorem dX8_count_73 : decode cX8_count 73 = .ok (.aload_n 0, 1) := by decide +kernel
theorem dX8_count_74 : decode cX8_count 74 = .ok (.getfield 13, 3) := by decide +kernel
theorem dX8_count_77 : decode cX8_count 77 = .ok (.iload_n 3, 1) := by decide +kernel
theorem dX8_count_78 : decode cX8_count 78 = .ok (.iaload, 1) := by decide +kernel
theorem dX8_count_79 : decode cX8_count 79 = .ok (.ifCond .ge 7, 3) := by decide +kernel
theorem dX8_count_82 : decode cX8_count 82 = .ok (.iconst 0, 1) := by decide +kernel
theorem dX8_count_83 : decode cX8_count 83 = .ok (.goto 4, 3) := by decide +kernel
theorem dX8_count_86 : decode cX8_count 86 = .ok (.iconst 1, 1) := by decide +kernel
theorem dX8_count_87 : decode cX8_count 87 = .ok (.iadd, 1) := by decide +kernel
theorem dX8_count_88 : decode cX8_count 88 = .ok (.istore_n 2, 1) := by decide +kernel
theorem dX8_count_89 : decode cX8_count 89 = .ok (.iinc 3 1, 3) := by decide +kernel
theorem dX8_count_92 : decode cX8_count 92 = .ok (.goto (-26), 3) := by decide +kernel
theorem dX8_count_95 : decode cX8_count 95 = .ok (.iload_n 2, 1) := by decide +kernel
theorem dX8_count_96 : decode cX8_count 96 = .ok (.ireturn, 1) := by decide +kernel
theorem dX8_count_97 : decode cX8_count 97 = .ok (.aload_n 0, 1) := by decide +kernel
theorem dX8_count_98 : decode cX8_count 98 = .ok (.getfield 7, 3) := by decide +kernel
theorem dX8_count_101 : decode cX8_count 101 = .ok (.iconst 1, 1) := by decide +kernel
theorem dX8_count_102 : decode cX8_count 102 = .ok (.iaload, 1) := by decide +kernel
theorem dX8_count_103 : decode cX8_count 103 = .ok (.ireturn, 1) := by decide +kernel
theorem dX8_count_104 : decode cX8_count 104 = .ok (.aload_n 0, 1) := by decide +kernel
theorem dX8_count_105 : decode cX8_count 105 = .ok (.getfield 7, 3) := by decide +kernel
theorem dX8_count_108 : decode cX8_count 108 = .ok (.iconst 3, 1) := by decide +kernel
theorem dX8_count_109 : decode cX8_count 109 = .ok (.iaload, 1) := by decide +kernel
theorem dX8_count_110 : decode cX8_count 110 = .ok (.ireturn, 1) := by decide +kernel
theorem dX8_count_111 : decode cX8_count 111 = .ok (.aload_n 0, 1) := by decide +kernel
theorem dX8_count_112 : decode cX8_count 112 = .ok (.getfield 7, 3) := by decide +kernel
theorem dX8_count_115 : decode cX8_count 115 = .ok (.iconst 2, 1) := by decide +kernel
theorem dX8_count_116 : decode cX8_count 116 = .ok (.iaload, 1) := by decide +kernel
theorem dX8_count_117 : decode cX8_count 117 = .ok (.ireturn, 1) := by decide +kernel
theorem dX8_count_118 : decode cX8_count 118 = .ok (.aload_n 0, 1) := by decide +kernel
theorem dX8_count_119 : decode cX8_count 119 = .ok (.getfield 7, 3) := by decide +kernel
theorem dX8_count_122 : decode cX8_count 122 = .ok (.bipush 54, 2) := by decide +kernel
theorem dX8_count_124 : decode cX8_count 124 = .ok (.iaload, 1) := by decide +kernel
theorem dX8_count_125 : decode cX8_count 125 = .ok (.ireturn, 1) := by decide +kernel
theorem dX8_count_126 : decode cX8_count 126 = .ok (.aload_n 0, 1) := by decide +kernel
theorem dX8_count_127 : decode cX8_count 127 = .ok (.getfield 7, 3) := by decide +kernel
theorem dX8_count_130 : decode cX8_count 130 = .ok (.bipush 55, 2) := by decide +kernel
theorem dX8_count_132 : decode cX8_count 132 = .ok (.iaload, 1) := by decide +kernel
theorem dX8_count_133 : decode cX8_count 133 = .ok (.ireturn, 1) := by decide +kernel
theorem dX8_count_134 : decode cX8_count 134 = .ok (.aload_n 0, 1) := by decide +kernel
theorem dX8_count_135 : decode cX8_count 135 = .ok (.getfield 7, 3) := by decide +kernel
theorem dX8_count_138 : decode cX8_count 138 = .ok (.bipush 56, 2) := by decide +kernel
theorem dX8_count_140 : decode cX8_count 140 = .ok (.iaload, 1) := by decide +kernel
theorem dX8_count_141 : decode cX8_count 141 = .ok (.ireturn, 1) := by decide +kernel
theorem dX8_count_142 : decode cX8_count 142 = .ok (.aload_n 0, 1) := by decide +kernel
theorem dX8_count_143 : decode cX8_count 143 = .ok (.getfield 118, 3) := by decide +kernel
theorem dX8_count_146 : decode cX8_count 146 = .ok (.ireturn, 1) := by decide +kernel
theorem dX8_count_147 : decode cX8_count 147 = .ok (.aload_n 0, 1) := by decide +kernel
theorem dX8_count_148 : decode cX8_count 148 = .ok (.getfield 58, 3) := by decide +kernel
theorem dX8_count_151 : decode cX8_count 151 = .ok (.ireturn, 1) := by decide +kernel
theorem dX8_status_0 : decode cX8_status 0 = .ok (.aload_n 0, 1) := by decide +kernel
theorem dX8_status_1 : decode cX8_status 1 = .ok (.getfield 35, 3) := by decide +kernel
theorem dX8_status_4 : decode cX8_status 4 = .ok (.ireturn, 1) := by decide +kernel
theorem dJ6_bitCount_0f7a4_0 : decode cJ6_bitCount_0f7a4 0 = .ok (.iload_n 0, 1) := by decide +kernel
theorem dJ6_bitCount_0f7a4_1 : decode cJ6_bitCount_0f7a4 1 = .ok (.iload_n 0, 1) := by decide +kernel
theorem dJ6_bitCount_0f7a4_2 : decode cJ6_bitCount_0f7a4 2 = .ok (.iconst 1, 1) := by decide +kernel
theorem dJ6_bitCount_0f7a4_3 : decode cJ6_bitCount_0f7a4 3 = .ok (.iushr, 1) := by decide +kernel
theorem dJ6_bitCount_0f7a4_4 : decode cJ6_bitCount_0f7a4 4 = .ok (.ldc_w 265, 3) := by decide +kernel
theorem dJ6_bitCount_0f7a4_7 : decode cJ6_bitCount_0f7a4 7 = .ok (.iand, 1) := by decide +kernel
theorem dJ6_bitCount_0f7a4_8 : decode cJ6_bitCount_0f7a4 8 = .ok (.isub, 1) := by decide +kernel
theorem dJ6_bitCount_0f7a4_9 : decode cJ6_bitCount_0f7a4 9 = .ok (.istore_n 0, 1) := by decide +kernel
theorem dJ6_bitCount_0f7a4_10 : decode cJ6_bitCount_0f7a4 10 = .ok (.iload_n 0, 1) := by decide +kernel
theorem dJ6_bitCount_0f7a4_11 : decode cJ6_bitCount_0f7a4 11 = .ok (.ldc_w 266, 3) := by decide +kernel
theorem dJ6_bitCount_0f7a4_14 : decode cJ6_bitCount_0f7a4 14 = .ok (.iand, 1) := by decide +kernel
theorem dJ6_bitCount_0f7a4_15 : decode cJ6_bitCount_0f7a4 15 = .ok (.iload_n 0, 1) := by decide +kernel
theorem dJ6_bitCount_0f7a4_16 : decode cJ6_bitCount_0f7a4 16 = .ok (.iconst 2, 1) := by decide +kernel
theorem dJ6_bitCount_0f7a4_17 : decode cJ6_bitCount_0f7a4 17 = .ok (.iushr, 1) := by decide +kernel
theorem dJ6_bitCount_0f7a4_18 : decode cJ6_bitCount_0f7a4 18 = .ok (.ldc_w 266, 3) := by decide +kernel
theorem dJ6_bitCount_0f7a4_21 : decode cJ6_bitCount_0f7a4 21 = .ok (.iand, 1) := by decide +kernel
theorem dJ6_bitCount_0f7a4_22 : decode cJ6_bitCount_0f7a4 22 = .ok (.iadd, 1) := by decide +kernel
theorem dJ6_bitCount_0f7a4_23 : decode cJ6_bitCount_0f7a4 23 = .ok (.istore_n 0, 1) := by decide +kernel
theorem dJ6_bitCount_0f7a4_24 : decode cJ6_bitCount_0f7a4 24 = .ok (.iload_n 0, 1) := by decide +kernel
theorem dJ6_bitCount_0f7a4_25 : decode cJ6_bitCount_0f7a4 25 = .ok (.iload_n 0, 1) := by decide +kernel
theorem dJ6_bitCount_0f7a4_26 : decode cJ6_bitCount_0f7a4 26 = .ok (.iconst 4, 1) := by decide +kernel
theorem dJ6_bitCount_0f7a4_27 : decode cJ6_bitCount_0f7a4 27 = .ok (.iushr, 1) := by decide +kernel
theorem dJ6_bitCount_0f7a4_28 : decode cJ6_bitCount_0f7a4 28 = .ok (.iadd, 1) := by decide +kernel
theorem dJ6_bitCount_0f7a4_29 : decode cJ6_bitCount_0f7a4 29 = .ok (.ldc_w 267, 3) := by decide +kernel
theorem dJ6_bitCount_0f7a4_32 : decode cJ6_bitCount_0f7a4 32 = .ok (.iand, 1) := by decide +kernel
theorem dJ6_bitCount_0f7a4_33 : decode cJ6_bitCount_0f7a4 33 = .ok (.istore_n 0, 1) := by decide +kernel
theorem dJ6_bitCount_0f7a4_34 : decode cJ6_bitCount_0f7a4 34 = .ok (.iload_n 0, 1) := by decide +kernel
theorem dJ6_bitCount_0f7a4_35 : decode cJ6_bitCount_0f7a4 35 = .ok (.iload_n 0, 1) := by decide +kernel
theorem dJ6_bitCount_0f7a4_36 : decode cJ6_bitCount_0f7a4 36 = .ok (.bipush 8, 2) := by decide +kernel
theorem dJ6_bitCount_0f7a4_38 : decode cJ6_bitCount_0f7a4 38 = .ok (.iushr, 1) := by decide +kernel
theorem dJ6_bitCount_0f7a4_39 : decode cJ6_bitCount_0f7a4 39 = .ok (.iadd, 1) := by decide +kernel
theorem dJ6_bitCount_0f7a4_40 : decode cJ6_bitCount_0f7a4 40 = .ok (.istore_n 0, 1) := by decide +kernel
theorem dJ6_bitCount_0f7a4_41 : decode cJ6_bitCount_0f7a4 41 = .ok (.iload_n 0, 1) := by decide +kernel
theorem dJ6_bitCount_0f7a4_42 : decode cJ6_bitCount_0f7a4 42 = .ok (.iload_n 0, 1) := by decide +kernel
theorem dJ6_bitCount_0f7a4_43 : decode cJ6_bitCount_0f7a4 43 = .ok (.bipush 16, 2) := by decide +kernel
theorem dJ6_bitCount_0f7a4_45 : decode cJ6_bitCount_0f7a4 45 = .ok (.iushr, 1) := by decide +kernel
theorem dJ6_bitCount_0f7a4_46 : decode cJ6_bitCount_0f7a4 46 = .ok (.iadd, 1) := by decide +kernel
theorem dJ6_bitCount_0f7a4_47 : decode cJ6_bitCount_0f7a4 47 = .ok (.istore_n 0, 1) := by decide +kernel
theorem dJ6_bitCount_0f7a4_48 : decode cJ6_bitCount_0f7a4 48 = .ok (.iload_n 0, 1) := by decide +kernel
theorem dJ6_bitCount_0f7a4_49 : decode cJ6_bitCount_0f7a4 49 = .ok (.bipush 63, 2) := by decide +kernel
theorem dJ6_bitCount_0f7a4_51 : decode cJ6_bitCount_0f7a4 51 = .ok (.iand, 1) := by decide +kernel
theorem dJ6_bitCount_0f7a4_52 : decode cJ6_bitCount_0f7a4 52 = .ok (.ireturn, 1) := by decide +kernel
theorem dJ9_max_7cf53_0 : decode cJ9_max_7cf53 0 = .ok (.iload_n 0, 1) := by decide +kernel
theorem dJ9_max_7cf53_1 : decode cJ9_max_7cf53 1 = .ok (.iload_n 1, 1) := by decide +kernel
theorem dJ9_max_7cf53_2 : decode cJ9_max_7cf53 2 = .ok (.if_icmp .lt 7, 3) := by decide +kernel
theorem dJ9_max_7cf53_5 : decode cJ9_max_7cf53 5 = .ok (.iload_n 0, 1) := by decide +kernel
theorem dJ9_max_7cf53_6 : decode cJ9_max_7cf53 6 = .ok (.goto 4, 3) := by decide +kernel
theorem dJ9_max_7cf53_9 : decode cJ9_max_7cf53 9 = .ok (.iload_n 1, 1) := by decide +kernel
theorem dJ9_max_7cf53_10 : decode cJ9_max_7cf53 10 = .ok (.ireturn, 1) := by decide +kernel
theorem dJ9_max_f86c9_0 : decode cJ9_max_f86c9 0 = .ok (.lload_n 0, 1) := by decide +kernel
theorem dJ9_max_f86c9_1 : decode cJ9_max_f86c9 1 = .ok (.lload_n 2, 1) := by decide +kernel
theorem dJ9_max_f86c9_2 : decode cJ9_max_f86c9 2 = .ok (.lcmp, 1) := by decide +kernel
theorem dJ9_max_f86c9_3 : decode cJ9_max_f86c9 3 = .ok (.ifCond .lt 7, 3) := by decide +kernel
theorem dJ9_max_f86c9_6 : decode cJ9_max_f86c9 6 = .ok (.lload_n 0, 1) := by decide +kernel
theorem dJ9_max_f86c9_7 : decode cJ9_max_f86c9 7 = .ok (.goto 4, 3) := by decide +kernel
theorem dJ9_max_f86c9_10 : decode cJ9_max_f86c9 10 = .ok (.lload_n 2, 1) := by decide +kernel
theorem dJ9_max_f86c9_11 : decode cJ9_max_f86c9 11 = .ok (.lreturn, 1) := by decide +kernel
theorem dJ9_min_7cf53_0 : decode cJ9_min_7cf53 0 = .ok (.iload_n 0, 1) := by decide +kernel
theorem dJ9_min_7cf53_1 : decode cJ9_min_7cf53 1 = .ok (.iload_n 1, 1) := by decide +kernel
theorem dJ9_min_7cf53_2 : decode cJ9_min_7cf53 2 = .ok (.if_icmp .gt 7, 3) := by decide +kernel
theorem dJ9_min_7cf53_5 : decode cJ9_min_7cf53 5 = .ok (.iload_n 0, 1) := by decide +kernel
theorem dJ9_min_7cf53_6 : decode cJ9_min_7cf53 6 = .ok (.goto 4, 3) := by decide +kernel
theorem dJ9_min_7cf53_9 : decode cJ9_min_7cf53 9 = .ok (.iload_n 1, 1) := by decide +kernel
theorem dJ9_min_7cf53_10 : decode cJ9_min_7cf53 10 = .ok (.ireturn, 1) := by decide +kernel
theorem dJ7_rangeCheck_23922_0 : decode cJ7_rangeCheck_23922 0 = .ok (.iload_n 1, 1) := by decide +kernel
theorem dJ7_rangeCheck_23922_1 : decode cJ7_rangeCheck_23922 1 = .ok (.iload_n 2, 1) := by decide +kernel
theorem dJ7_rangeCheck_23922_2 : decode cJ7_rangeCheck_23922 2 = .ok (.if_icmp .le 44, 3) := by decide +kernel
theorem dJ7_rangeCheck_23922_5 : decode cJ7_rangeCheck_23922 5 = .ok (.new 43, 3) := by decide +kernel
theorem dJ7_rangeCheck_23922_8 : decode cJ7_rangeCheck_23922 8 = .ok (.dup, 1) := by decide +kernel
theorem dJ7_rangeCheck_23922_9 : decode cJ7_rangeCheck_23922 9 = .ok (.new 45, 3) := by decide +kernel
theorem dJ7_rangeCheck_23922_12 : decode cJ7_rangeCheck_23922 12 = .ok (.dup, 1) := by decide +kernel
theorem dJ7_rangeCheck_23922_13 : decode cJ7_rangeCheck_23922 13 = .ok (.invokespecial 47, 3) := by decide +kernel
theorem dJ7_rangeCheck_23922_16 : decode cJ7_rangeCheck_23922 16 = .ok (.ldc 48, 2) := by decide +kernel
theorem dJ7_rangeCheck_23922_18 : decode cJ7_rangeCheck_23922 18 = .ok (.invokevirtual 50, 3) := by decide +kernel
theorem dJ7_rangeCheck_23922_21 : decode cJ7_rangeCheck_23922 21 = .ok (.iload_n 1, 1) := by decide +kernel
theorem dJ7_rangeCheck_23922_22 : decode cJ7_rangeCheck_23922 22 = .ok (.invokevirtual 54, 3) := by decide +kernel
theorem dJ7_rangeCheck_23922_25 : decode cJ7_rangeCheck_23922 25 = .ok (.ldc 57, 2) := by decide +kernel
theorem dJ7_rangeCheck_23922_27 : decode cJ7_rangeCheck_23922 27 = .ok (.invokevirtual 50, 3) := by decide +kernel
theorem dJ7_rangeCheck_23922_30 : decode cJ7_rangeCheck_23922 30 = .ok (.iload_n 2, 1) := by decide +kernel
theorem dJ7_rangeCheck_23922_31 : decode cJ7_rangeCheck_23922 31 = .ok (.invokevirtual 54, 3) := by decide +kernel
theorem dJ7_rangeCheck_23922_34 : decode cJ7_rangeCheck_23922 34 = .ok (.ldc 59, 2) := by decide +kernel
theorem dJ7_rangeCheck_23922_36 : decode cJ7_rangeCheck_23922 36 = .ok (.invokevirtual 50, 3) := by decide +kernel
theorem dJ7_rangeCheck_23922_39 : decode cJ7_rangeCheck_23922 39 = .ok (.invokevirtual 61, 3) := by decide +kernel
theorem dJ7_rangeCheck_23922_42 : decode cJ7_rangeCheck_23922 42 = .ok (.invokespecial 65, 3) := by decide +kernel
theorem dJ7_rangeCheck_23922_45 : decode cJ7_rangeCheck_23922 45 = .ok (.athrow, 1) := by decide +kernel
theorem dJ7_rangeCheck_23922_46 : decode cJ7_rangeCheck_23922 46 = .ok (.iload_n 1, 1) := by decide +kernel
theorem dJ7_rangeCheck_23922_47 : decode cJ7_rangeCheck_23922 47 = .ok (.ifCond .ge 12, 3) := by decide +kernel
theorem dJ7_rangeCheck_23922_50 : decode cJ7_rangeCheck_23922 50 = .ok (.new 68, 3) := by decide +kernel
theorem dJ7_rangeCheck_23922_53 : decode cJ7_rangeCheck_23922 53 = .ok (.dup, 1) := by decide +kernel
theorem dJ7_rangeCheck_23922_54 : decode cJ7_rangeCheck_23922 54 = .ok (.iload_n 1, 1) := by decide +kernel
theorem dJ7_rangeCheck_23922_55 : decode cJ7_rangeCheck_23922 55 = .ok (.invokespecial 70, 3) := by decide +kernel
theorem dJ7_rangeCheck_23922_58 : decode cJ7_rangeCheck_23922 58 = .ok (.athrow, 1) := by decide +kernel
theorem dJ7_rangeCheck_23922_59 : decode cJ7_rangeCheck_23922 59 = .ok (.iload_n 2, 1) := by decide +kernel
theorem dJ7_rangeCheck_23922_60 : decode cJ7_rangeCheck_23922 60 = .ok (.iload_n 0, 1) := by decide +kernel
theorem dJ7_rangeCheck_23922_61 : decode cJ7_rangeCheck_23922 61 = .ok (.if_icmp .le 12, 3) := by decide +kernel
theorem dJ7_rangeCheck_23922_64 : decode cJ7_rangeCheck_23922 64 = .ok (.new 68, 3) := by decide +kernel
theorem dJ7_rangeCheck_23922_67 : decode cJ7_rangeCheck_23922 67 = .ok (.dup, 1) := by decide +kernel
theorem dJ7_rangeCheck_23922_68 : decode cJ7_rangeCheck_23922 68 = .ok (.iload_n 2, 1) := by decide +kernel
theorem dJ7_rangeCheck_23922_69 : decode cJ7_rangeCheck_23922 69 = .ok (.invokespecial 70, 3) := by decide +kernel
theorem dJ7_rangeCheck_23922_72 : decode cJ7_rangeCheck_23922 72 = .ok (.athrow, 1) := by decide +kernel
theorem dJ7_rangeCheck_23922_73 : decode cJ7_rangeCheck_23922 73 = .ok (.return_, 1) := by decide +kernel
theorem dJ7_fill_53178_0 : decode cJ7_fill_53178 0 = .ok (.iconst 0, 1) := by decide +kernel
theorem dJ7_fill_53178_1 : decode cJ7_fill_53178 1 = .ok (.istore_n 2, 1) := by decide +kernel
theorem dJ7_fill_53178_2 : decode cJ7_fill_53178 2 = .ok (.aload_n 0, 1) := by decide +kernel
theorem dJ7_fill_53178_3 : decode cJ7_fill_53178 3 = .ok (.arraylength, 1) := by decide +kernel
theorem dJ7_fill_53178_4 : decode cJ7_fill_53178 4 = .ok (.istore_n 3, 1) := by decide +kernel
theorem dJ7_fill_53178_5 : decode cJ7_fill_53178 5 = .ok (.iload_n 2, 1) := by decide +kernel
theorem dJ7_fill_53178_6 : decode cJ7_fill_53178 6 = .ok (.iload_n 3, 1) := by decide +kernel
theorem dJ7_fill_53178_7 : decode cJ7_fill_53178 7 = .ok (.if_icmp .ge 13, 3) := by decide +kernel
theorem dJ7_fill_53178_10 : decode cJ7_fill_53178 10 = .ok (.aload_n 0, 1) := by decide +kernel
theorem dJ7_fill_53178_11 : decode cJ7_fill_53178 11 = .ok (.iload_n 2, 1) := by decide +kernel
theorem dJ7_fill_53178_12 : decode cJ7_fill_53178 12 = .ok (.iload_n 1, 1) := by decide +kernel
theorem dJ7_fill_53178_13 : decode cJ7_fill_53178 13 = .ok (.iastore, 1) := by decide +kernel
theorem dJ7_fill_53178_14 : decode cJ7_fill_53178 14 = .ok (.iinc 2 1, 3) := by decide +kernel
theorem dJ7_fill_53178_17 : decode cJ7_fill_53178 17 = .ok (.goto (-12), 3) := by decide +kernel
theorem dJ7_fill_53178_20 : decode cJ7_fill_53178 20 = .ok (.return_, 1) := by decide +kernel
theorem lq_J7_fill_fda19_0 {w : Cond} (h : w ∈ ([.methodLink RJ7 13 yJ7_rangeCheck_23922, .static yJ7_rangeCheck_23922, .initialized RJ7, .code yJ7_rangeCheck_23922 cJ7_rangeCheck_23922 3 none] : List Cond)) : w ∈ wsJ7_fill_fda19 := List.mem_cons_of_mem _ (h)
set_option maxRecDepth 20000 in
theorem ggJ7_fill_fda19_J7_rangeCheck_23922 : GoodIn wsJ7_fill_fda19 wsJ7_rangeCheck_23922 := goodIn_sub (List.forall_mem_cons.mpr ⟨lq_J7_fill_fda19_0 (List.mem_of_getElem? (i := 3) rfl), (show ∀ w ∈ ([] : List Cond), w ∈ wsJ7_fill_fda19 from fun _ h => absurd h List.not_mem_nil)⟩) (by decide +kernel)
set_option maxRecDepth 20000 in
theorem gJ7_fill_fda19_J7_rangeCheck_23922 : GoodIn wsJ7_fill_fda19 (va_wsS RJ7 13 yJ7_rangeCheck_23922 wsJ7_rangeCheck_23922) := goodIn_app (goodIn_sub (List.forall_mem_cons.mpr ⟨lq_J7_fill_fda19_0 (List.mem_of_getElem? (i := 0) rfl), List.forall_mem_cons.mpr ⟨lq_J7_fill_fda19_0 (List.mem_of_getElem? (i := 1) rfl), List.forall_mem_cons.mpr ⟨lq_J7_fill_fda19_0 (List.mem_of_getElem? (i := 2) rfl), fun _ h => absurd h List.not_mem_nil⟩⟩⟩) (by decide +kernel)) ggJ7_fill_fda19_J7_rangeCheck_23922
theorem dJ7_fill_fda19_0 : decode cJ7_fill_fda19 0 = .ok (.aload_n 0, 1) := by decide +kernel
theorem dJ7_fill_fda19_1 : decode cJ7_fill_fda19 1 = .ok (.arraylength, 1) := by decide +kernel
theorem dJ7_fill_fda19_2 : decode cJ7_fill_fda19 2 = .ok (.iload_n 1, 1) := by decide +kernel
theorem dJ7_fill_fda19_3 : decode cJ7_fill_fda19 3 = .ok (.iload_n 2, 1) := by decide +kernel
theorem dJ7_fill_fda19_4 : decode cJ7_fill_fda19 4 = .ok (.invokestatic 13, 3) := by decide +kernel
theorem dJ7_fill_fda19_7 : decode cJ7_fill_fda19 7 = .ok (.iload_n 1, 1) := by decide +kernel
theorem dJ7_fill_fda19_8 : decode cJ7_fill_fda19 8 = .ok (.istore 4, 2) := by decide +kernel
theorem dJ7_fill_fda19_10 : decode cJ7_fill_fda19 10 = .ok (.iload 4, 2) := by decide +kernel
theorem dJ7_fill_fda19_12 : decode cJ7_fill_fda19 12 = .ok (.iload_n 2, 1) := by decide +kernel
theorem dJ7_fill_fda19_13 : decode cJ7_fill_fda19 13 = .ok (.if_icmp .ge 14, 3) := by decide +kernel
theorem dJ7_fill_fda19_16 : decode cJ7_fill_fda19 16 = .ok (.aload_n 0, 1) := by decide +kernel
theorem dJ7_fill_fda19_17 : decode cJ7_fill_fda19 17 = .ok (.iload 4, 2) := by decide +kernel
theorem dJ7_fill_fda19_19 : decode cJ7_fill_fda19 19 = .ok (.iload_n 3, 1) := by decide +kernel
theorem dJ7_fill_fda19_20 : decode cJ7_fill_fda19 20 = .ok (.iastore, 1) := by decide +kernel
theorem dJ7_fill_fda19_21 : decode cJ7_fill_fda19 21 = .ok (.iinc 4 1, 3) := by decide +kernel
theorem dJ7_fill_fda19_24 : decode cJ7_fill_fda19 24 = .ok (.goto (-14), 3) := by decide +kernel
theorem dJ7_fill_fda19_27 : decode cJ7_fill_fda19 27 = .ok (.return_, 1) := by decide +kernel
