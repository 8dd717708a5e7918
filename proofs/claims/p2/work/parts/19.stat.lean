/-! static rows: where they are, what they hold; they lie below all cells that may change -/
abbrev ZT : Type := Nat × Nat × Nat × Nat × (Nat → Int32) × (Nat → Int32) × (Nat → Int32)
def wz1 (C n : String) (base b : Nat) (x : Nat → Int32) (U : State) (H : Heap) : Prop := va_Z C n "[I" (.ref b) (fun q => base ≤ q) U H ∧ va_X b 6 x U H ∧ b < base
def wz (z : ZT) (U : State) : Prop := z.1 ≤ U.heap.size ∧ wz1 "WinterWalk$Kinds" "ABOVE" z.1 z.2.1 z.2.2.2.2.1 U U.heap ∧ wz1 "WinterWalk$Asks" "SIZE_TOLD" z.1 z.2.2.1 z.2.2.2.2.2.1 U U.heap ∧ wz1 "WinterWalk$Asks" "MARK_TOLD" z.1 z.2.2.2.1 z.2.2.2.2.2.2 U U.heap
theorem wz1.go {C n : String} {base b : Nat} {x : Nat → Int32} {s U : State} {H1 : Heap} (h : wz1 C n base b x s s.heap) (hb : base ≤ s.heap.size) (hv : s.vm.Alike U.vm) (hk : ∀ a : Nat, a < s.heap.size → ¬ base ≤ a → H1[a]? = s.heap[a]?) : wz1 C n base b x U H1 :=
  ⟨va_Z.kept (va_Z.moved hv h.1) hk, va_X.kept (va_X.moved hv h.2.1) (hk b (Nat.lt_of_lt_of_le h.2.2 hb) (Nat.not_le.mpr h.2.2)), h.2.2⟩
theorem wz.go {z : ZT} {s U : State} {A : Nat → Prop} {H : Heap} {locs : List Loc} (h : wz z s) (hS : va_S A s.heap H locs) (hAb : ∀ q, A q → z.1 ≤ q) (hU : U.heap = H) (hv : s.vm.Alike U.vm) : wz z U := by
  have hk : ∀ a : Nat, a < s.heap.size → ¬ z.1 ≤ a → U.heap[a]? = s.heap[a]? := fun a h1 h2 => by rw [hU]; exact hS.2.1 a h1 (fun q => h2 (hAb a q))
  exact ⟨by rw [hU]; exact Nat.le_trans h.1 hS.1, h.2.1.go h.1 hv hk, h.2.2.1.go h.1 hv hk, h.2.2.2.go h.1 hv hk⟩
def wvz (z : ZT) (D : va_G) (cI cB cQ : ClassId) (sz : Nat) (WS : va_W) (U : State) : Prop := wv D cI cB cQ sz WS U ∧ wz z U ∧ ∀ q ∈ WS, z.1 ≤ q.1
theorem wvz_blind {z : ZT} {D : va_G} {cI cB cQ : ClassId} {sz : Nat} {WS : va_W} {As : List Value} : FrameBlind (va_Pc As (wvz z D cI cB cQ sz WS)) := by
  intro a U g mk q
  obtain ⟨q0, q1, q2, q3⟩ := q
  obtain ⟨-, q1⟩ := wv_blind (As := As) a U g mk ⟨q0, q1⟩
  exact ⟨q0, q1, wz.go (A := fun _ => False) (locs := []) q2 ⟨Nat.le_refl _, fun _ _ _ => rfl, fun _ h => by cases h⟩ (fun _ h => absurd h id) rfl (Vm.Alike.refl U.vm), q3⟩
abbrev miz (l : Launch) (y : MethodName) (ws : List Cond) (rm : Room) (z : ZT) (D : va_G) (cI cB cQ : ClassId) (As : List Value) (sz : Nat) (WS : va_W) {S : Type} (post : Int32 → S → Prop) (W' : S → va_W) (mc ms : Nat) : Prop :=
  Met l y ws rm (va_Pc As (wvz z D cI cB cQ sz WS)) (va_Qi post (fun u t => wb D (va_A WS sz) (W' u) t) (va_A WS sz)) mc ms (va_A WS sz)
theorem wpz_S {z : ZT} {s : State} {H : Heap} {locs : List Loc} {D : va_G} {cI cB cQ : ClassId} {A : Nat → Prop} {WS WC : va_W} {As : List Value} (hZ : wz z s) (hS : va_S A s.heap H locs) (hAb : ∀ q, A q → z.1 ≤ q) (hP : va_P D kl WS H) (hK : va_K D kl (ty_s cI cB cQ) s) (hD : va_D A WS) (hN : ww_N s) (isC : List Nat) (hn : va_nd isC = true) (hC : isC.map (fun i => WS[i]?) = WC.map some) : PreS s H (va_Pc As (wvz z D cI cB cQ H.size WC)) As :=
  ⟨wvz_blind, fun U hU hW => ⟨rfl, ((wp_S (As := As) hP hK hD hN isC hn hC).2 U hU hW).2, hZ.go hS hAb hU hW.alike, fun q hq => by
    obtain ⟨i, hi, e⟩ := List.mem_iff_getElem.mp hq
    exact hAb _ ((hD.sub isC hn hC).2 i q (by rw [List.getElem?_eq_getElem hi, e]))⟩⟩
theorem wpz_V {z : ZT} {s : State} {H : Heap} {locs : List Loc} {D : va_G} {cI cB cQ : ClassId} {A : Nat → Prop} {WS WC : va_W} {As : List Value} {b ci : Nat} {q : vw_C} {fs : List Value} (hZ : wz z s) (hS : va_S A s.heap H locs) (hAb : ∀ q, A q → z.1 ≤ q) (hP : va_P D kl WS H) (hK : va_K D kl (ty_s cI cB cQ) s) (hD : va_D A WS) (hN : ww_N s) (isC : List Nat) (hn : va_nd isC = true) (hC : isC.map (fun i => WS[i]?) = WC.map some) (hc : kl[ci]? = some q) (he : WC[0]? = some (b, .inr (ci, fs))) : PreV s H q.1 b (va_Pc (.ref b :: As) (wvz z D cI cB cQ H.size WC)) As :=
  ⟨wvz_blind, va_recv hK (hP.sub isC (wf_map hC)) hc he, (wpz_S hZ hS hAb hP hK hD hN isC hn hC).2⟩
theorem wm_z {l : Launch} {y : MethodName} {ws ws' : List Cond} {rm : Room} {z : ZT} {D : va_G} {cI cB cQ : ClassId} {As : List Value} {sz : Nat} {WS : va_W} {mc ms : Nat} {cc : ByteArray} {maxL : Nat} {ret : Option FieldType} {S : Type} {post : Int32 → S → Prop} {W' : S → va_W} (hy : plainName y.cls = true) (hw : ws = Cond.code y cc maxL ret :: ws') (hl : (lg_sl As).length ≤ maxL)
    (body : ∀ (p : Program) (e : Env) (s : State) (m : MethodId) (below : List Frame) (meth : Method) (c : Code) (A : Nat → Prop) (ls : Array Slot), wz z s → (∀ q, A q → z.1 ≤ q) → p.tables.exec = Jvm.exec → c.code = cc → meth.sig.returnType = ret → c.maxLocals = maxL → s.vm.findClass y.cls = some m.cls → (∀ w ∈ ws, w.before As.toArray s = true) → meth.locks = false → meth.name = y.name →
      va_P D kl WS s.heap → va_K D kl (ty_s cI cB cQ) s → va_D A WS → ww_N s → (∀ q : Nat, s.heap.size ≤ q → A q) → lv_has ls maxL (lv_args 0 As) → va_S A s.heap s.heap [] →
      W p l e rm s m As.toArray below meth c s.heap [] 0 0 (MQ below (va_Qi post (fun u t => wb D A (W' u) t) A) As.toArray s mc ms A) (F0 m 0 ls [])) : miz l y ws rm z D cI cB cQ As sz WS post W' mc ms := by
  refine Met.ofW (cc := cc) (maxL := maxL) (ret := ret) hy hw ?_
  intro p e s m args below meth c s₁ B hml hv
  obtain ⟨rfl, ⟨hsz, hP, hK, hD0, hN⟩, hZ, hb⟩ := hv
  subst hsz
  have hown : s.vm.findClass y.cls = some m.cls := findClass_of_methodNamed B.named
  have hl0 := lv_entry As (n := maxL) hl
  rw [lg_entry_eq]
  refine body p e s m below meth c (va_A WS s.heap.size) _ hZ (fun q hq => ?_) B.exec B.bytes B.returns hml hown (atoms_spec (ws := ws) B.pre) B.notSynchronized (name_of_methodNamed B.named B.method).1 hP hK hD0.self hN (fun q h => Or.inr h) hl0 va_S.rf
  rcases hq with ⟨k, ee, hk⟩ | h
  · exact hb _ (List.mem_of_getElem? hk)
  · exact Nat.le_trans hZ.1 h
set_option maxHeartbeats 4000000 in
set_option maxRecDepth 100000 in
theorem g_X3_above (l : Launch) (D : va_G) (cI cB cQ : ClassId) (z : ZT) (sz : Nat) (k : Int32) : miz l yX3_above wsX3_above ({ frames := 1, cells := 0, slots := 0, locals := 22 }) z D cI cB cQ [.int k] sz [] (fun (r : Int32) (_u : Unit) => True) (fun _ => []) 0 0 := by
  refine wm_z (cc := cX3_above) (maxL := 1) (ret := (some .int)) (by decide) rfl (Nat.le_of_ble_eq_true rfl) ?_
  intro p e s m below meth c A ls hZ hAb hx hb hr hml hown hts hlocks hin hP hK hD hN hA hl hS
  have hown : s.vm.findClass RX3 = some m.cls := hown
  have hl : lv_has ls 1 [(0, .int k)] := hl
  change W p l e ({ frames := 1, cells := 0, slots := 0, locals := 22 }) s m ([.int k] : List Value).toArray below meth c s.heap [] 0 0 (MQ below (va_Qi (fun (r : Int32) (_u : Unit) => True) (fun u t => wb D A ((fun _ => []) u) t) A) ([.int k] : List Value).toArray s 0 0 A) (F0 m 0 ls [])
  refine lv_iconst (v := 0) hx hb dX3_above_0 (by decide) ?_
  refine lv_iload_n hx hb dX3_above_1 rfl (lv_at hl 0 rfl) ?_
  refine lv_iconst (v := 5) hx hb dX3_above_2 (by decide) ?_
  have k_1 := (g_X7_isFrom l D cI cB cQ s.heap.size 0 k 5)
  refine wc_i (WC := []) (WR := []) (va_runSN (As := [.int 0, .int k, .int 5]) (rest := []) ⟨hx, hb, hml, hown, hts⟩ k_1 (⟨va_cnB 3 hts gX3_above_X7_isFrom_n9 rfl rfl rfl hN.2.2.2.2.2.2.2.2.1 (hts (.initialized RX7) (List.mem_of_getElem? (i := 3) rfl)) (by decide +kernel) ⟨Nat.le_of_ble_eq_true rfl, Nat.le_of_ble_eq_true rfl⟩, (hts (.static yX7_isFrom) (List.mem_of_getElem? (i := 2) rfl)), trivial⟩) (wp_S hP hK hD hN [] (by decide) rfl) rfl rfl hl.1 rfl (lv_room (Nat.le_of_ble_eq_true rfl)) dX3_above_3 ⟨Nat.le_of_ble_eq_true rfl, Nat.le_of_ble_eq_true rfl⟩) hP hD hS hA [] [] rfl rfl (by decide) (by decide) (fun r_1 u_1 H locs hw_1 hP hD hS => ?_)
  clear k_1
  have hP : va_P D kl [] H := hP
  have hD : va_D A [] := hD
  have c1_0 := hw_1
  rcases c1_0 with ⟨e_1, f_1⟩ | ⟨e_1, f_1⟩
  · subst e_1
    have f_1 : (0 : Int) ≤ k.toInt ∧ k.toInt ≤ (5 : Int) := f_1
    refine lv_if_eq (tgt := 17) hx hb dX3_above_6 (by decide) (fun c9 => absurd c9 (by decide)) (fun _ => ?_)
    refine va_gets (v := .ref z.2.1) hx hb (va_Z.narrow hZ.2.1.1 hAb) hS hown (hts (.fieldLink RX3 13 "WinterWalk$Kinds" "ABOVE" "[I") (List.mem_of_getElem? (i := 1) rfl)) (fun _ h => h) dX3_above_9 ?_
    refine lv_iload_n hx hb dX3_above_12 rfl (lv_at hl 0 rfl) ?_
    refine va_sld hx hb hZ.2.1.2.1 (Nat.lt_of_lt_of_le hZ.2.1.2.2 hZ.1) (fun q => absurd (hAb _ q) (Nat.not_le.mpr hZ.2.1.2.2)) hS (zi_in (by omega) (by omega)) dX3_above_13 ?_
    refine lv_topi (fun x_2 ex_2 => ?_)
    clear ex_2
    refine lv_goto (tgt := 18) hx hb dX3_above_14 (by decide) ?_
    exact wr_i (v := x_2) hx hb hr hlocks hS () (by trivial) (hP.sub [] rfl) (hD.sub [] (by decide) rfl) dX3_above_18
  · subst e_1
    have f_1 : ¬ ((0 : Int) ≤ k.toInt ∧ k.toInt ≤ (5 : Int)) := f_1
    refine lv_if_eq (tgt := 17) hx hb dX3_above_6 (by decide) (fun _ => ?_) (fun c9 => absurd (by decide) c9)
    refine lv_iconst (v := (-1)) hx hb dX3_above_17 (by decide) ?_
    exact wr_i (v := (-1)) hx hb hr hlocks hS () (by trivial) (hP.sub [] rfl) (hD.sub [] (by decide) rfl) dX3_above_18
set_option maxHeartbeats 4000000 in
set_option maxRecDepth 100000 in
theorem g_X3_isOf (l : Launch) (D : va_G) (cI cB cQ : ClassId) (z : ZT) (sz : Nat) (k : Int32) (b : Int32) : miz l yX3_isOf wsX3_isOf ({ frames := 2, cells := 0, slots := 0, locals := 42 }) z D cI cB cQ [.int k, .int b] sz [] (fun (r : Int32) (_u : Unit) => ((r = 1) ∨ (r = 0))) (fun _ => []) 0 0 := by
  refine wm_z (cc := cX3_isOf) (maxL := 4) (ret := (some .boolean)) (by decide) rfl (Nat.le_of_ble_eq_true rfl) ?_
  intro p e s m below meth c A ls hZ hAb hx hb hr hml hown hts hlocks hin hP hK hD hN hA hl hS
  have hown : s.vm.findClass RX3 = some m.cls := hown
  have hl : lv_has ls 4 [(0, .int k), (1, .int b)] := hl
  change W p l e ({ frames := 2, cells := 0, slots := 0, locals := 42 }) s m ([.int k, .int b] : List Value).toArray below meth c s.heap [] 0 0 (MQ below (va_Qi (fun (r : Int32) (_u : Unit) => ((r = 1) ∨ (r = 0))) (fun u t => wb D A ((fun _ => []) u) t) A) ([.int k, .int b] : List Value).toArray s 0 0 A) (F0 m 0 ls [])
  refine lv_iload_n hx hb dX3_isOf_0 rfl (lv_at hl 0 rfl) ?_
  refine lv_istore_n (lv' := [(2, .int k), (0, .int k), (1, .int b)]) hx hb dX3_isOf_1 rfl hl (by decide) rfl (fun ls hl => ?_)
  refine lv_iconst (v := 0) hx hb dX3_isOf_2 (by decide) ?_
  refine lv_istore_n (lv' := [(3, .int 0), (2, .int k), (0, .int k), (1, .int b)]) hx hb dX3_isOf_3 rfl hl (by decide) rfl (fun ls hl => ?_)
  have hL4 : ∀ (nf : Nat) (t3_c4 : Int32) (t2_c4 : Int32) (H : Heap) (locs : List Loc) (ls : Array Slot), (0 ≤ t3_c4.toInt ∧ t3_c4.toInt ≤ 6) → (6 - t3_c4.toInt).toNat < nf → va_P D kl [] H → va_D A [] → va_S A s.heap H locs → lv_has ls 4 [(3, .int t3_c4), (2, .int t2_c4), (0, .int k), (1, .int b)] → W p l e ({ frames := 2, cells := 0, slots := 0, locals := 42 }) s m ([.int k, .int b] : List Value).toArray below meth c H locs 0 0 (MQ below (va_Qi (fun (r : Int32) (_u : Unit) => ((r = 1) ∨ (r = 0))) (fun u t => wb D A ((fun _ => []) u) t) A) ([.int k, .int b] : List Value).toArray s 0 0 A) (F0 m 4 ls []) := by
    intro nf
    induction nf with
    | zero =>
      intro t3_c4 t2_c4 H locs ls i_t3_c4 hm
      exact absurd hm (Nat.not_lt_zero _)
    | succ nf ih4 =>
      intro t3_c4 t2_c4 H locs ls i_t3_c4 hm4 hP hD hS hl
      refine lv_iload_n hx hb dX3_isOf_4 rfl (lv_at hl 0 rfl) ?_
      refine lv_iconst (v := 5) hx hb dX3_isOf_5 (by decide) ?_
      refine lv_icmp_gt (tgt := 32) hx hb dX3_isOf_6 (by decide) (fun c_1 => ?_) (fun c_1 => ?_)
      · have f_1 : 5 < t3_c4.toInt := zi_lt c_1
        refine lv_iconst (v := 0) hx hb dX3_isOf_32 (by decide) ?_
        exact wr_z (v := 0) hx hb hr hlocks hS () (by exact Or.inr (rfl)) (hP.sub [] rfl) (hD.sub [] (by decide) rfl) dX3_isOf_33 rfl
      · have f_1 : ¬ 5 < t3_c4.toInt := zi_nlt c_1
        refine lv_iload_n hx hb dX3_isOf_9 rfl (lv_at hl 1 rfl) ?_
        refine lv_iconst (v := (-1)) hx hb dX3_isOf_10 (by decide) ?_
        refine lv_icmp_eq (tgt := 32) hx hb dX3_isOf_11 (by decide) (fun c_2 => ?_) (fun c_2 => ?_)
        · have f_2 : t2_c4.toInt = (-1) := zi_eq c_2
          refine lv_iconst (v := 0) hx hb dX3_isOf_32 (by decide) ?_
          exact wr_z (v := 0) hx hb hr hlocks hS () (by exact Or.inr (rfl)) (hP.sub [] rfl) (hD.sub [] (by decide) rfl) dX3_isOf_33 rfl
        · have f_2 : ¬ t2_c4.toInt = (-1) := zi_ne c_2
          refine lv_iload_n hx hb dX3_isOf_14 rfl (lv_at hl 1 rfl) ?_
          refine lv_iload_n hx hb dX3_isOf_15 rfl (lv_at hl 3 rfl) ?_
          refine lv_icmp_ne (tgt := 21) hx hb dX3_isOf_16 (by decide) (fun c_3 => ?_) (fun c_3 => ?_)
          · have f_3 : ¬ t2_c4.toInt = b.toInt := zi_ne c_3
            refine lv_iload_n hx hb dX3_isOf_21 rfl (lv_at hl 1 rfl) ?_
            have k_4 := (g_X3_above l D cI cB cQ z H.size t2_c4)
            refine wc_i (WC := []) (WR := []) (va_runS (As := [.int t2_c4]) (rest := []) ⟨hx, hb, hml, hown, hts⟩ k_4 (va_cwS 1 hts gX3_isOf_X3_above rfl rfl rfl (by decide +kernel) ⟨Nat.le_of_ble_eq_true rfl, Nat.le_of_ble_eq_true rfl⟩) (wpz_S hZ hS hAb hP hK hD hN [] (by decide) rfl) rfl rfl hl.1 rfl (lv_room (Nat.le_of_ble_eq_true rfl)) dX3_isOf_22 ⟨Nat.le_of_ble_eq_true rfl, Nat.le_of_ble_eq_true rfl⟩) hP hD hS hA [] [] rfl rfl (by decide) (by decide) (fun r_4 u_4 H locs hw_4 hP hD hS => ?_)
            clear k_4
            have hP : va_P D kl [] H := hP
            have hD : va_D A [] := hD
            clear hw_4
            refine lv_istore_n (lv' := [(2, .int r_4), (3, .int t3_c4), (0, .int k), (1, .int b)]) hx hb dX3_isOf_25 rfl hl (by decide) rfl (fun ls hl => ?_)
            obtain ⟨x_5, ex_5⟩ : ∃ y : Int32, y = t3_c4 + Int32.ofInt 1 := ⟨_, rfl⟩
            refine lv_iinc (v := x_5) (lv' := [(3, .int x_5), (2, .int r_4), (0, .int k), (1, .int b)]) hx hb dX3_isOf_26 hl (k := 1) rfl ex_5.symm (by decide) rfl (fun ls hl => ?_)
            have ex_5 : x_5 = t3_c4 + 1 := ex_5
            have e_5 : x_5.toInt = t3_c4.toInt + 1 := by rw [ex_5]; exact zi_add (rfl) (by decide) (by omega) (by omega)
            clear ex_5
            refine lv_goto (tgt := 4) hx hb dX3_isOf_29 (by decide) ?_
            exact ih4 x_5 r_4 _ _ _ (show 0 ≤ x_5.toInt ∧ x_5.toInt ≤ 6 from by omega) (by omega) (hP.sub [] rfl) (hD.sub [] (by decide) rfl) hS (lv_sub hl [0, 1, 2, 3] rfl)
          · have f_3 : t2_c4.toInt = b.toInt := zi_eq c_3
            refine lv_iconst (v := 1) hx hb dX3_isOf_19 (by decide) ?_
            exact wr_z (v := 1) hx hb hr hlocks hS () (by exact Or.inl rfl) (hP.sub [] rfl) (hD.sub [] (by decide) rfl) dX3_isOf_20 rfl
  exact hL4 (((6 - (0 : Int32).toInt).toNat) + 1) 0 k _ _ _ (show 0 ≤ 0 ∧ 0 ≤ 6 from by omega) (Nat.lt_succ_self _) (hP.sub [] rfl) (hD.sub [] (by decide) rfl) hS (lv_sub hl [0, 1, 2, 3] rfl)
set_option maxHeartbeats 4000000 in
set_option maxRecDepth 100000 in
theorem g_X1_bodyFor (l : Launch) (D : va_G) (cI cB cQ : ClassId) (z : ZT) (sz : Nat) (k : Int32) (b : Int32) : miz l yX1_bodyFor wsX1_bodyFor ({ frames := 2, cells := 0, slots := 0, locals := 42 }) z D cI cB cQ [.int k, .int b] sz [] (fun (r : Int32) (_u : Unit) => True) (fun _ => []) 0 0 := by
  refine wm_z (cc := cX1_bodyFor) (maxL := 5) (ret := (some .int)) (by decide) rfl (Nat.le_of_ble_eq_true rfl) ?_
  intro p e s m below meth c A ls hZ hAb hx hb hr hml hown hts hlocks hin hP hK hD hN hA hl hS
  have hown : s.vm.findClass RX1 = some m.cls := hown
  have hl : lv_has ls 5 [(0, .int k), (1, .int b)] := hl
  change W p l e ({ frames := 2, cells := 0, slots := 0, locals := 42 }) s m ([.int k, .int b] : List Value).toArray below meth c s.heap [] 0 0 (MQ below (va_Qi (fun (r : Int32) (_u : Unit) => True) (fun u t => wb D A ((fun _ => []) u) t) A) ([.int k, .int b] : List Value).toArray s 0 0 A) (F0 m 0 ls [])
  refine lv_iload_n hx hb dX1_bodyFor_0 rfl (lv_at hl 0 rfl) ?_
  refine lv_istore_n (lv' := [(2, .int k), (0, .int k), (1, .int b)]) hx hb dX1_bodyFor_1 rfl hl (by decide) rfl (fun ls hl => ?_)
  refine lv_iconst (v := 0) hx hb dX1_bodyFor_2 (by decide) ?_
  refine lv_istore_n (lv' := [(3, .int 0), (2, .int k), (0, .int k), (1, .int b)]) hx hb dX1_bodyFor_3 rfl hl (by decide) rfl (fun ls hl => ?_)
  have hL4 : ∀ (nf : Nat) (t3_c4 : Int32) (t2_c4 : Int32) (H : Heap) (locs : List Loc) (ls : Array Slot), (0 ≤ t3_c4.toInt ∧ t3_c4.toInt ≤ 6) → (6 - t3_c4.toInt).toNat < nf → va_P D kl [] H → va_D A [] → va_S A s.heap H locs → lv_has ls 5 [(3, .int t3_c4), (2, .int t2_c4), (0, .int k), (1, .int b)] → W p l e ({ frames := 2, cells := 0, slots := 0, locals := 42 }) s m ([.int k, .int b] : List Value).toArray below meth c H locs 0 0 (MQ below (va_Qi (fun (r : Int32) (_u : Unit) => True) (fun u t => wb D A ((fun _ => []) u) t) A) ([.int k, .int b] : List Value).toArray s 0 0 A) (F0 m 4 ls []) := by
    intro nf
    induction nf with
    | zero =>
      intro t3_c4 t2_c4 H locs ls i_t3_c4 hm
      exact absurd hm (Nat.not_lt_zero _)
    | succ nf ih4 =>
      intro t3_c4 t2_c4 H locs ls i_t3_c4 hm4 hP hD hS hl
      refine lv_iload_n hx hb dX1_bodyFor_4 rfl (lv_at hl 0 rfl) ?_
      refine lv_iconst (v := 5) hx hb dX1_bodyFor_5 (by decide) ?_
      refine lv_icmp_gt (tgt := 56) hx hb dX1_bodyFor_6 (by decide) (fun c_1 => ?_) (fun c_1 => ?_)
      · have f_1 : 5 < t3_c4.toInt := zi_lt c_1
        refine lv_iconst (v := 0) hx hb dX1_bodyFor_56 (by decide) ?_
        exact wr_i (v := 0) hx hb hr hlocks hS () (by trivial) (hP.sub [] rfl) (hD.sub [] (by decide) rfl) dX1_bodyFor_57
      · have f_1 : ¬ 5 < t3_c4.toInt := zi_nlt c_1
        refine lv_iconst (v := 0) hx hb dX1_bodyFor_9 (by decide) ?_
        refine lv_iload_n hx hb dX1_bodyFor_10 rfl (lv_at hl 1 rfl) ?_
        refine lv_iconst (v := 5) hx hb dX1_bodyFor_11 (by decide) ?_
        have k_2 := (g_X7_isFrom l D cI cB cQ H.size 0 t2_c4 5)
        refine wc_i (WC := []) (WR := []) (va_runSN (As := [.int 0, .int t2_c4, .int 5]) (rest := []) ⟨hx, hb, hml, hown, hts⟩ k_2 (⟨va_cnB 3 hts gX1_bodyFor_X7_isFrom_n39 rfl rfl rfl hN.2.2.2.2.2.2.2.2.2.1 (hts (.initialized RX7) (List.mem_of_getElem? (i := 4) rfl)) (by decide +kernel) ⟨Nat.le_of_ble_eq_true rfl, Nat.le_of_ble_eq_true rfl⟩, (hts (.static yX7_isFrom) (List.mem_of_getElem? (i := 3) rfl)), trivial⟩) (wp_S hP hK hD hN [] (by decide) rfl) rfl rfl hl.1 rfl (lv_room (Nat.le_of_ble_eq_true rfl)) dX1_bodyFor_12 ⟨Nat.le_of_ble_eq_true rfl, Nat.le_of_ble_eq_true rfl⟩) hP hD hS hA [] [] rfl rfl (by decide) (by decide) (fun r_2 u_2 H locs hw_2 hP hD hS => ?_)
        clear k_2
        have hP : va_P D kl [] H := hP
        have hD : va_D A [] := hD
        have c2_0 := hw_2
        rcases c2_0 with ⟨e_2, f_2⟩ | ⟨e_2, f_2⟩
        · subst e_2
          have f_2 : (0 : Int) ≤ t2_c4.toInt ∧ t2_c4.toInt ≤ (5 : Int) := f_2
          refine lv_if_eq (tgt := 56) hx hb dX1_bodyFor_15 (by decide) (fun c9 => absurd c9 (by decide)) (fun _ => ?_)
          refine lv_iload_n hx hb dX1_bodyFor_18 rfl (lv_at hl 3 rfl) ?_
          refine lv_if_ne (tgt := 30) hx hb dX1_bodyFor_19 (by decide) (fun c_3 => ?_) (fun c_3 => ?_)
          · have f_3 : ¬ b.toInt = 0 := zi_ne c_3
            refine va_gets (v := .ref z.2.2.2.1) hx hb (va_Z.narrow hZ.2.2.2.1 hAb) hS hown (hts (.fieldLink RX1 46 "WinterWalk$Asks" "MARK_TOLD" "[I") (List.mem_of_getElem? (i := 2) rfl)) (fun _ h => h) dX1_bodyFor_30 ?_
            refine lv_iload_n hx hb dX1_bodyFor_33 rfl (lv_at hl 1 rfl) ?_
            refine va_sld hx hb hZ.2.2.2.2.1 (Nat.lt_of_lt_of_le hZ.2.2.2.2.2 hZ.1) (fun q => absurd (hAb _ q) (Nat.not_le.mpr hZ.2.2.2.2.2)) hS (zi_in (by omega) (by omega)) dX1_bodyFor_34 ?_
            refine lv_topi (fun x_4 ex_4 => ?_)
            clear ex_4
            refine lv_istore (lv' := [(4, .int x_4), (3, .int t3_c4), (2, .int t2_c4), (0, .int k), (1, .int b)]) hx hb dX1_bodyFor_35 hl (by decide) rfl (fun ls hl => ?_)
            refine lv_iload hx hb dX1_bodyFor_37 (lv_at hl 0 rfl) ?_
            refine lv_if_eq (tgt := 45) hx hb dX1_bodyFor_39 (by decide) (fun c_5 => ?_) (fun c_5 => ?_)
            · have f_5 : x_4.toInt = 0 := zi_eq c_5
              refine lv_iload_n hx hb dX1_bodyFor_45 rfl (lv_at hl 2 rfl) ?_
              have k_6 := (g_X3_above l D cI cB cQ z H.size t2_c4)
              refine wc_i (WC := []) (WR := []) (va_runS (As := [.int t2_c4]) (rest := []) ⟨hx, hb, hml, hown, hts⟩ k_6 (va_cwS 1 hts gX1_bodyFor_X3_above rfl rfl rfl (by decide +kernel) ⟨Nat.le_of_ble_eq_true rfl, Nat.le_of_ble_eq_true rfl⟩) (wpz_S hZ hS hAb hP hK hD hN [] (by decide) rfl) rfl rfl hl.1 rfl (lv_room (Nat.le_of_ble_eq_true rfl)) dX1_bodyFor_46 ⟨Nat.le_of_ble_eq_true rfl, Nat.le_of_ble_eq_true rfl⟩) hP hD hS hA [] [] rfl rfl (by decide) (by decide) (fun r_6 u_6 H locs hw_6 hP hD hS => ?_)
              clear k_6
              have hP : va_P D kl [] H := hP
              have hD : va_D A [] := hD
              clear hw_6
              refine lv_istore_n (lv' := [(2, .int r_6), (4, .int x_4), (3, .int t3_c4), (0, .int k), (1, .int b)]) hx hb dX1_bodyFor_49 rfl hl (by decide) rfl (fun ls hl => ?_)
              obtain ⟨x_7, ex_7⟩ : ∃ y : Int32, y = t3_c4 + Int32.ofInt 1 := ⟨_, rfl⟩
              refine lv_iinc (v := x_7) (lv' := [(3, .int x_7), (2, .int r_6), (4, .int x_4), (0, .int k), (1, .int b)]) hx hb dX1_bodyFor_50 hl (k := 2) rfl ex_7.symm (by decide) rfl (fun ls hl => ?_)
              have ex_7 : x_7 = t3_c4 + 1 := ex_7
              have e_7 : x_7.toInt = t3_c4.toInt + 1 := by rw [ex_7]; exact zi_add (rfl) (by decide) (by omega) (by omega)
              clear ex_7
              refine lv_goto (tgt := 4) hx hb dX1_bodyFor_53 (by decide) ?_
              exact ih4 x_7 r_6 _ _ _ (show 0 ≤ x_7.toInt ∧ x_7.toInt ≤ 6 from by omega) (by omega) (hP.sub [] rfl) (hD.sub [] (by decide) rfl) hS (lv_sub hl [0, 1, 3, 4] rfl)
            · have f_5 : ¬ x_4.toInt = 0 := zi_ne c_5
              refine lv_iload hx hb dX1_bodyFor_42 (lv_at hl 0 rfl) ?_
              exact wr_i (v := x_4) hx hb hr hlocks hS () (by trivial) (hP.sub [] rfl) (hD.sub [] (by decide) rfl) dX1_bodyFor_44
          · have f_3 : b.toInt = 0 := zi_eq c_3
            refine va_gets (v := .ref z.2.2.1) hx hb (va_Z.narrow hZ.2.2.1.1 hAb) hS hown (hts (.fieldLink RX1 43 "WinterWalk$Asks" "SIZE_TOLD" "[I") (List.mem_of_getElem? (i := 1) rfl)) (fun _ h => h) dX1_bodyFor_22 ?_
            refine lv_iload_n hx hb dX1_bodyFor_25 rfl (lv_at hl 1 rfl) ?_
            refine va_sld hx hb hZ.2.2.1.2.1 (Nat.lt_of_lt_of_le hZ.2.2.1.2.2 hZ.1) (fun q => absurd (hAb _ q) (Nat.not_le.mpr hZ.2.2.1.2.2)) hS (zi_in (by omega) (by omega)) dX1_bodyFor_26 ?_
            refine lv_topi (fun x_8 ex_8 => ?_)
            clear ex_8
            refine lv_goto (tgt := 35) hx hb dX1_bodyFor_27 (by decide) ?_
            refine lv_istore (lv' := [(4, .int x_8), (3, .int t3_c4), (2, .int t2_c4), (0, .int k), (1, .int b)]) hx hb dX1_bodyFor_35 hl (by decide) rfl (fun ls hl => ?_)
            refine lv_iload hx hb dX1_bodyFor_37 (lv_at hl 0 rfl) ?_
            refine lv_if_eq (tgt := 45) hx hb dX1_bodyFor_39 (by decide) (fun c_9 => ?_) (fun c_9 => ?_)
            · have f_9 : x_8.toInt = 0 := zi_eq c_9
              refine lv_iload_n hx hb dX1_bodyFor_45 rfl (lv_at hl 2 rfl) ?_
              have k_10 := (g_X3_above l D cI cB cQ z H.size t2_c4)
              refine wc_i (WC := []) (WR := []) (va_runS (As := [.int t2_c4]) (rest := []) ⟨hx, hb, hml, hown, hts⟩ k_10 (va_cwS 1 hts gX1_bodyFor_X3_above rfl rfl rfl (by decide +kernel) ⟨Nat.le_of_ble_eq_true rfl, Nat.le_of_ble_eq_true rfl⟩) (wpz_S hZ hS hAb hP hK hD hN [] (by decide) rfl) rfl rfl hl.1 rfl (lv_room (Nat.le_of_ble_eq_true rfl)) dX1_bodyFor_46 ⟨Nat.le_of_ble_eq_true rfl, Nat.le_of_ble_eq_true rfl⟩) hP hD hS hA [] [] rfl rfl (by decide) (by decide) (fun r_10 u_10 H locs hw_10 hP hD hS => ?_)
              clear k_10
              have hP : va_P D kl [] H := hP
              have hD : va_D A [] := hD
              clear hw_10
              refine lv_istore_n (lv' := [(2, .int r_10), (4, .int x_8), (3, .int t3_c4), (0, .int k), (1, .int b)]) hx hb dX1_bodyFor_49 rfl hl (by decide) rfl (fun ls hl => ?_)
              obtain ⟨x_11, ex_11⟩ : ∃ y : Int32, y = t3_c4 + Int32.ofInt 1 := ⟨_, rfl⟩
              refine lv_iinc (v := x_11) (lv' := [(3, .int x_11), (2, .int r_10), (4, .int x_8), (0, .int k), (1, .int b)]) hx hb dX1_bodyFor_50 hl (k := 2) rfl ex_11.symm (by decide) rfl (fun ls hl => ?_)
              have ex_11 : x_11 = t3_c4 + 1 := ex_11
              have e_11 : x_11.toInt = t3_c4.toInt + 1 := by rw [ex_11]; exact zi_add (rfl) (by decide) (by omega) (by omega)
              clear ex_11
              refine lv_goto (tgt := 4) hx hb dX1_bodyFor_53 (by decide) ?_
              exact ih4 x_11 r_10 _ _ _ (show 0 ≤ x_11.toInt ∧ x_11.toInt ≤ 6 from by omega) (by omega) (hP.sub [] rfl) (hD.sub [] (by decide) rfl) hS (lv_sub hl [0, 1, 3, 4] rfl)
            · have f_9 : ¬ x_8.toInt = 0 := zi_ne c_9
              refine lv_iload hx hb dX1_bodyFor_42 (lv_at hl 0 rfl) ?_
              exact wr_i (v := x_8) hx hb hr hlocks hS () (by trivial) (hP.sub [] rfl) (hD.sub [] (by decide) rfl) dX1_bodyFor_44
        · subst e_2
          have f_2 : ¬ ((0 : Int) ≤ t2_c4.toInt ∧ t2_c4.toInt ≤ (5 : Int)) := f_2
          refine lv_if_eq (tgt := 56) hx hb dX1_bodyFor_15 (by decide) (fun _ => ?_) (fun c9 => absurd (by decide) c9)
          refine lv_iconst (v := 0) hx hb dX1_bodyFor_56 (by decide) ?_
          exact wr_i (v := 0) hx hb hr hlocks hS () (by trivial) (hP.sub [] rfl) (hD.sub [] (by decide) rfl) dX1_bodyFor_57
  exact hL4 (((6 - (0 : Int32).toInt).toNat) + 1) 0 k _ _ _ (show 0 ≤ 0 ∧ 0 ≤ 6 from by omega) (Nat.lt_succ_self _) (hP.sub [] rfl) (hD.sub [] (by decide) rfl) hS (lv_sub hl [0, 1, 2, 3] rfl)
set_option maxHeartbeats 4000000 in
set_option maxRecDepth 100000 in
theorem g_X1_leaveTrace (l : Launch) (D : va_G) (cI cB cQ : ClassId) (sz : Nat) (h : Nat) (nw : Nat) (bo : Nat) (tc : Int32) (k : Int32) (bf : Nat → Int32) (h_tc : 0 ≤ tc.toInt ∧ tc.toInt ≤ 16) : mv l yX1_leaveTrace wsX1_leaveTrace ({ frames := 0, cells := 0, slots := 0, locals := 0 }) D cI cB cQ [.ref h, .int k] sz [(h, .inr (1, [.ref nw, .ref bo, .int tc])), (bo, .inl (cI, 16, .inl bf))] (fun (u : Int32 × (Nat → Int32)) => (0 ≤ u.1.toInt ∧ u.1.toInt ≤ 16)) (fun u => [(h, .inr (1, [.ref nw, .ref bo, .int u.1])), (bo, .inl (cI, 16, .inl u.2))]) 0 0 := by
  refine wm_v (cc := cX1_leaveTrace) (maxL := 2) (ret := none) (by decide) rfl (Nat.le_of_ble_eq_true rfl) ?_
  intro p e s m below meth c A ls hx hb hr hml hown hts hlocks hin hP hK hD hN hA hl hS
  have hown : s.vm.findClass RX1 = some m.cls := hown
  have hl : lv_has ls 2 [(0, .ref h), (1, .int k)] := hl
  change W p l e ({ frames := 0, cells := 0, slots := 0, locals := 0 }) s m ([.ref h, .int k] : List Value).toArray below meth c s.heap [] 0 0 (MQ below (va_Qv (fun (u : Int32 × (Nat → Int32)) => (0 ≤ u.1.toInt ∧ u.1.toInt ≤ 16)) (fun u t => wb D A ((fun u => [(h, .inr (1, [.ref nw, .ref bo, .int u.1])), (bo, .inl (cI, 16, .inl u.2))]) u) t) A) ([.ref h, .int k] : List Value).toArray s 0 0 A) (F0 m 0 ls [])
  refine lv_aload_n hx hb dX1_leaveTrace_0 rfl (lv_at hl 0 rfl) ?_
  refine va_get (D := D) (ci := 1) (v := .int tc) (C := RX1) (T := TX1) (N := 3) hx hb hts (fun _ h => List.mem_cons_of_mem _ (List.mem_append_right _ h)) hown hK hP 0 rfl rfl 2 (by decide) (hts (.fieldLink RX1 15 "WinterWalk$Asks" "traced" "I") (List.mem_of_getElem? (i := 1) rfl)) (fun _ h9 => h9) rfl dX1_leaveTrace_1 ?_
  refine lv_bipush (v := 16) hx hb dX1_leaveTrace_4 (by decide) ?_
  refine lv_icmp_ge (tgt := 29) hx hb dX1_leaveTrace_6 (by decide) (fun c_1 => ?_) (fun c_1 => ?_)
  · have f_1 : 16 ≤ tc.toInt := zi_le c_1
    exact wr_v hx hb hr hlocks hS (tc, bf) (by exact show 0 ≤ (tc : Int32).toInt ∧ (tc : Int32).toInt ≤ 16 from by omega) (hP.sub [0, 1] rfl) (hD.sub [0, 1] (by decide) rfl) dX1_leaveTrace_29
  · have f_1 : ¬ 16 ≤ tc.toInt := zi_nle c_1
    refine lv_aload_n hx hb dX1_leaveTrace_9 rfl (lv_at hl 0 rfl) ?_
    refine va_get (D := D) (ci := 1) (v := .ref bo) (C := RX1) (T := TX1) (N := 3) hx hb hts (fun _ h => List.mem_cons_of_mem _ (List.mem_append_right _ h)) hown hK hP 0 rfl rfl 1 (by decide) (hts (.fieldLink RX1 11 "WinterWalk$Asks" "bodies" "[I") (List.mem_of_getElem? (i := 2) rfl)) (fun _ h9 => h9) rfl dX1_leaveTrace_10 ?_
    refine lv_aload_n hx hb dX1_leaveTrace_13 rfl (lv_at hl 0 rfl) ?_
    refine va_get (D := D) (ci := 1) (v := .int tc) (C := RX1) (T := TX1) (N := 3) hx hb hts (fun _ h => List.mem_cons_of_mem _ (List.mem_append_right _ h)) hown hK hP 0 rfl rfl 2 (by decide) (hts (.fieldLink RX1 15 "WinterWalk$Asks" "traced" "I") (List.mem_of_getElem? (i := 1) rfl)) (fun _ h9 => h9) rfl dX1_leaveTrace_14 ?_
    refine lv_iload_n hx hb dX1_leaveTrace_17 rfl (lv_at hl 1 rfl) ?_
    refine va_iast hx hb hK hP hD hS 1 0 rfl rfl (zi_in (by omega) (by omega)) dX1_leaveTrace_18 (fun H locs hP hD hS => ?_)
    have hP : va_P D kl [(h, .inr (1, [.ref nw, .ref bo, .int tc])), (bo, .inl (cI, 16, .inl (upd bf (tc : Int32).toNatClampNeg k)))] H := hP
    have hD : va_D A [(h, .inr (1, [.ref nw, .ref bo, .int tc])), (bo, .inl (cI, 16, .inl (upd bf (tc : Int32).toNatClampNeg k)))] := hD
    refine lv_aload_n hx hb dX1_leaveTrace_19 rfl (lv_at hl 0 rfl) ?_
    refine lv_dup hx hb dX1_leaveTrace_20 rfl ?_
    refine va_get (D := D) (ci := 1) (v := .int tc) (C := RX1) (T := TX1) (N := 3) hx hb hts (fun _ h => List.mem_cons_of_mem _ (List.mem_append_right _ h)) hown hK hP 0 rfl rfl 2 (by decide) (hts (.fieldLink RX1 15 "WinterWalk$Asks" "traced" "I") (List.mem_of_getElem? (i := 1) rfl)) (fun _ h9 => h9) rfl dX1_leaveTrace_21 ?_
    refine lv_iconst (v := 1) hx hb dX1_leaveTrace_24 (by decide) ?_
    refine lv_iadd hx hb dX1_leaveTrace_25 ?_
    refine lv_topi (fun x_2 ex_2 => ?_)
    have e_2 : x_2.toInt = tc.toInt + 1 := by rw [ex_2]; exact zi_add (rfl) (by decide) (by omega) (by omega)
    clear ex_2
    refine va_put (D := D) (ci := 1) (v := .int x_2) (ty := .int) (C := RX1) (T := TX1) (N := 3) hx hb hts (fun _ h => List.mem_cons_of_mem _ (List.mem_append_right _ h)) tyX1 tyX1_ok nmX1 hown hK hP hD hS 0 rfl rfl 2 (by decide) (hts (.fieldLink RX1 15 "WinterWalk$Asks" "traced" "I") (List.mem_of_getElem? (i := 1) rfl)) (fun _ h9 => h9) rfl (by decide +kernel) rfl rfl (Nat.le_of_ble_eq_true rfl) dX1_leaveTrace_26 (fun H locs hP hD hS => ?_)
    have hP : va_P D kl [(h, .inr (1, [.ref nw, .ref bo, .int x_2])), (bo, .inl (cI, 16, .inl (upd bf (tc : Int32).toNatClampNeg k)))] H := hP
    have hD : va_D A [(h, .inr (1, [.ref nw, .ref bo, .int x_2])), (bo, .inl (cI, 16, .inl (upd bf (tc : Int32).toNatClampNeg k)))] := hD
    exact wr_v hx hb hr hlocks hS (x_2, (upd bf (tc : Int32).toNatClampNeg k)) (by exact show 0 ≤ (x_2 : Int32).toInt ∧ (x_2 : Int32).toInt ≤ 16 from by omega) (hP.sub [0, 1] rfl) (hD.sub [0, 1] (by decide) rfl) dX1_leaveTrace_29
set_option maxHeartbeats 4000000 in
set_option maxRecDepth 100000 in
theorem g_X1_gives_9 (l : Launch) (D : va_G) (cI cB cQ : ClassId) (z : ZT) (sz : Nat) (h : Nat) (nw : Nat) (bo : Nat) (nw0 : Nat) (nw1 : Nat) (nw2 : Nat) (nw3 : Nat) (nw4 : Nat) (nw5 : Nat) (nw6 : Nat) (nw7 : Nat) (tc : Int32) (nvi : Int32) (nro : Int32) (nwa : Int32) (nlz : Int32) (nds : Int32) (ndy : Int32) (nga : Int32) (npa : Int32) (k : Int32) (w : Int32) (bf : Nat → Int32) (nfw : Nat → Int32) (nfo : Nat → Int32) (nfr : Nat → Int32) (nfn : Nat → Int32) (nft : Nat → Int32) (nfk : Nat → Int32) (nfa : Nat → Int32) (nfb : Nat → Int32) (nha : ∀ j, j < 3 → 0 ≤ (nfa j).toInt ∧ (nfa j).toInt ≤ 7) (h_tc : 0 ≤ tc.toInt ∧ tc.toInt ≤ 16) (h_nvi : 0 ≤ nvi.toInt ∧ nvi.toInt ≤ 8) (h_nwa : 0 ≤ nwa.toInt ∧ nwa.toInt ≤ 3) (h_w : 0 ≤ w.toInt ∧ w.toInt ≤ 2) : miz l yX1_gives wsX1_gives ({ frames := 0, cells := 0, slots := 0, locals := 0 }) z D cI cB cQ [.ref h, .int k, .int w, .int 9] sz [(h, .inr (1, [.ref nw, .ref bo, .int tc])), (bo, .inl (cI, 16, .inl bf)), (nw, .inr (3, [.int nvi, .int nro, .int nwa, .int nlz, .int nds, .int ndy, .int nga, .int npa, .ref nw0, .ref nw1, .ref nw2, .ref nw3, .ref nw4, .ref nw5, .ref nw6, .ref nw7])), (nw0, .inl (cI, 8, .inl nfw)), (nw1, .inl (cI, 8, .inl nfo)), (nw2, .inl (cI, 8, .inl nfr)), (nw3, .inl (cI, 8, .inl nfn)), (nw4, .inl (cI, 8, .inl nft)), (nw5, .inl (cI, 3, .inl nfk)), (nw6, .inl (cI, 3, .inl nfa)), (nw7, .inl (cI, 3, .inl nfb))] (fun (r : Int32) (u : Int32 × (Nat → Int32)) => (0 ≤ u.1.toInt ∧ u.1.toInt ≤ 16)) (fun u => [(h, .inr (1, [.ref nw, .ref bo, .int u.1])), (bo, .inl (cI, 16, .inl u.2)), (nw, .inr (3, [.int nvi, .int nro, .int nwa, .int nlz, .int nds, .int ndy, .int nga, .int npa, .ref nw0, .ref nw1, .ref nw2, .ref nw3, .ref nw4, .ref nw5, .ref nw6, .ref nw7])), (nw0, .inl (cI, 8, .inl nfw)), (nw1, .inl (cI, 8, .inl nfo)), (nw2, .inl (cI, 8, .inl nfr)), (nw3, .inl (cI, 8, .inl nfn)), (nw4, .inl (cI, 8, .inl nft)), (nw5, .inl (cI, 3, .inl nfk)), (nw6, .inl (cI, 3, .inl nfa)), (nw7, .inl (cI, 3, .inl nfb))]) 0 0 := by
  refine wm_z (cc := cX1_gives) (maxL := 5) (ret := (some .int)) (by decide) rfl (Nat.le_of_ble_eq_true rfl) ?_
  intro p e s m below meth c A ls hZ hAb hx hb hr hml hown hts hlocks hin hP hK hD hN hA hl hS
  have hown : s.vm.findClass RX1 = some m.cls := hown
  have hl : lv_has ls 5 [(0, .ref h), (1, .int k), (2, .int w), (3, .int 9)] := hl
  change W p l e ({ frames := 0, cells := 0, slots := 0, locals := 0 }) s m ([.ref h, .int k, .int w, .int 9] : List Value).toArray below meth c s.heap [] 0 0 (MQ below (va_Qi (fun (r : Int32) (u : Int32 × (Nat → Int32)) => (0 ≤ u.1.toInt ∧ u.1.toInt ≤ 16)) (fun u t => wb D A ((fun u => [(h, .inr (1, [.ref nw, .ref bo, .int u.1])), (bo, .inl (cI, 16, .inl u.2)), (nw, .inr (3, [.int nvi, .int nro, .int nwa, .int nlz, .int nds, .int ndy, .int nga, .int npa, .ref nw0, .ref nw1, .ref nw2, .ref nw3, .ref nw4, .ref nw5, .ref nw6, .ref nw7])), (nw0, .inl (cI, 8, .inl nfw)), (nw1, .inl (cI, 8, .inl nfo)), (nw2, .inl (cI, 8, .inl nfr)), (nw3, .inl (cI, 8, .inl nfn)), (nw4, .inl (cI, 8, .inl nft)), (nw5, .inl (cI, 3, .inl nfk)), (nw6, .inl (cI, 3, .inl nfa)), (nw7, .inl (cI, 3, .inl nfb))]) u) t) A) ([.ref h, .int k, .int w, .int 9] : List Value).toArray s 0 0 A) (F0 m 0 ls [])
  refine lv_iload_n hx hb dX1_gives_0 rfl (lv_at hl 3 rfl) ?_
  refine lv_bipush (v := 8) hx hb dX1_gives_1 (by decide) ?_
  refine lv_icmp_le (tgt := 8) hx hb dX1_gives_3 (by decide) (fun c9 => absurd c9 (by decide)) (fun _ => ?_)
  refine lv_iconst (v := 0) hx hb dX1_gives_6 (by decide) ?_
  exact wr_i (v := 0) hx hb hr hlocks hS (tc, bf) (by exact show 0 ≤ (tc : Int32).toInt ∧ (tc : Int32).toInt ≤ 16 from by omega) (hP.sub [0, 1, 2, 3, 4, 5, 6, 7, 8, 9, 10] rfl) (hD.sub [0, 1, 2, 3, 4, 5, 6, 7, 8, 9, 10] (by decide) rfl) dX1_gives_7
set_option maxHeartbeats 4000000 in
set_option maxRecDepth 100000 in
theorem g_X1_asked_9 (l : Launch) (D : va_G) (cI cB cQ : ClassId) (z : ZT) (sz : Nat) (h : Nat) (nw : Nat) (bo : Nat) (nw0 : Nat) (nw1 : Nat) (nw2 : Nat) (nw3 : Nat) (nw4 : Nat) (nw5 : Nat) (nw6 : Nat) (nw7 : Nat) (tc : Int32) (nvi : Int32) (nro : Int32) (nwa : Int32) (nlz : Int32) (nds : Int32) (ndy : Int32) (nga : Int32) (npa : Int32) (w : Int32) (k : Int32) (bf : Nat → Int32) (nfw : Nat → Int32) (nfo : Nat → Int32) (nfr : Nat → Int32) (nfn : Nat → Int32) (nft : Nat → Int32) (nfk : Nat → Int32) (nfa : Nat → Int32) (nfb : Nat → Int32) (nha : ∀ j, j < 3 → 0 ≤ (nfa j).toInt ∧ (nfa j).toInt ≤ 7) (h_tc : 0 ≤ tc.toInt ∧ tc.toInt ≤ 16) (h_nvi : 0 ≤ nvi.toInt ∧ nvi.toInt ≤ 8) (h_nwa : 0 ≤ nwa.toInt ∧ nwa.toInt ≤ 3) (h_w : 0 ≤ w.toInt ∧ w.toInt ≤ 2) : miz l yX1_asked wsX1_asked ({ frames := 3, cells := 0, slots := 0, locals := 66 }) z D cI cB cQ [.ref h, .int w, .int k, .int 9] sz [(h, .inr (1, [.ref nw, .ref bo, .int tc])), (bo, .inl (cI, 16, .inl bf)), (nw, .inr (3, [.int nvi, .int nro, .int nwa, .int nlz, .int nds, .int ndy, .int nga, .int npa, .ref nw0, .ref nw1, .ref nw2, .ref nw3, .ref nw4, .ref nw5, .ref nw6, .ref nw7])), (nw0, .inl (cI, 8, .inl nfw)), (nw1, .inl (cI, 8, .inl nfo)), (nw2, .inl (cI, 8, .inl nfr)), (nw3, .inl (cI, 8, .inl nfn)), (nw4, .inl (cI, 8, .inl nft)), (nw5, .inl (cI, 3, .inl nfk)), (nw6, .inl (cI, 3, .inl nfa)), (nw7, .inl (cI, 3, .inl nfb))] (fun (r : Int32) (u : Int32 × (Nat → Int32)) => (0 ≤ u.1.toInt ∧ u.1.toInt ≤ 16)) (fun u => [(h, .inr (1, [.ref nw, .ref bo, .int u.1])), (bo, .inl (cI, 16, .inl u.2)), (nw, .inr (3, [.int nvi, .int nro, .int nwa, .int nlz, .int nds, .int ndy, .int nga, .int npa, .ref nw0, .ref nw1, .ref nw2, .ref nw3, .ref nw4, .ref nw5, .ref nw6, .ref nw7])), (nw0, .inl (cI, 8, .inl nfw)), (nw1, .inl (cI, 8, .inl nfo)), (nw2, .inl (cI, 8, .inl nfr)), (nw3, .inl (cI, 8, .inl nfn)), (nw4, .inl (cI, 8, .inl nft)), (nw5, .inl (cI, 3, .inl nfk)), (nw6, .inl (cI, 3, .inl nfa)), (nw7, .inl (cI, 3, .inl nfb))]) 0 0 := by
  refine wm_z (cc := cX1_asked) (maxL := 4) (ret := (some .int)) (by decide) rfl (Nat.le_of_ble_eq_true rfl) ?_
  intro p e s m below meth c A ls hZ hAb hx hb hr hml hown hts hlocks hin hP hK hD hN hA hl hS
  have hown : s.vm.findClass RX1 = some m.cls := hown
  have hl : lv_has ls 4 [(0, .ref h), (1, .int w), (2, .int k), (3, .int 9)] := hl
  change W p l e ({ frames := 3, cells := 0, slots := 0, locals := 66 }) s m ([.ref h, .int w, .int k, .int 9] : List Value).toArray below meth c s.heap [] 0 0 (MQ below (va_Qi (fun (r : Int32) (u : Int32 × (Nat → Int32)) => (0 ≤ u.1.toInt ∧ u.1.toInt ≤ 16)) (fun u t => wb D A ((fun u => [(h, .inr (1, [.ref nw, .ref bo, .int u.1])), (bo, .inl (cI, 16, .inl u.2)), (nw, .inr (3, [.int nvi, .int nro, .int nwa, .int nlz, .int nds, .int ndy, .int nga, .int npa, .ref nw0, .ref nw1, .ref nw2, .ref nw3, .ref nw4, .ref nw5, .ref nw6, .ref nw7])), (nw0, .inl (cI, 8, .inl nfw)), (nw1, .inl (cI, 8, .inl nfo)), (nw2, .inl (cI, 8, .inl nfr)), (nw3, .inl (cI, 8, .inl nfn)), (nw4, .inl (cI, 8, .inl nft)), (nw5, .inl (cI, 3, .inl nfk)), (nw6, .inl (cI, 3, .inl nfa)), (nw7, .inl (cI, 3, .inl nfb))]) u) t) A) ([.ref h, .int w, .int k, .int 9] : List Value).toArray s 0 0 A) (F0 m 0 ls [])
  refine lv_aload_n hx hb dX1_asked_0 rfl (lv_at hl 0 rfl) ?_
  refine lv_aload_n hx hb dX1_asked_1 rfl (lv_at hl 0 rfl) ?_
  refine va_get (D := D) (ci := 1) (v := .ref nw) (C := RX1) (T := TX1) (N := 3) hx hb hts (fun _ h => List.mem_cons_of_mem _ (List.mem_append_left _ (List.mem_append_right _ h))) hown hK hP 0 rfl rfl 0 (by decide) (hts (.fieldLink RX1 19 "WinterWalk$Asks" "land" "LWinterWalk$Land;") (List.mem_of_getElem? (i := 1) rfl)) (fun _ h9 => h9) rfl dX1_asked_2 ?_
  refine va_get (D := D) (ci := 3) (v := .ref nw5) (C := RX4) (T := TX4) (N := 16) hx hb hts (fun _ h => List.mem_cons_of_mem _ (List.mem_append_right _ h)) hown hK hP 2 rfl rfl 13 (by decide) (hts (.fieldLink RX1 27 "WinterWalk$Land" "kinds" "[I") (List.mem_of_getElem? (i := 2) rfl)) (fun _ h9 => h9) rfl dX1_asked_5 ?_
  refine lv_iload_n hx hb dX1_asked_8 rfl (lv_at hl 1 rfl) ?_
  refine va_iald hx hb hK hP 8 0 rfl rfl (zi_in (by omega) (by omega)) dX1_asked_9 ?_
  refine lv_topi (fun x_1 ex_1 => ?_)
  clear ex_1
  refine lv_iload_n hx hb dX1_asked_10 rfl (lv_at hl 2 rfl) ?_
  have k_2 := (g_X1_bodyFor l D cI cB cQ z s.heap.size x_1 k)
  refine wc_i (WC := []) (WR := [(h, .inr (1, [.ref nw, .ref bo, .int tc])), (bo, .inl (cI, 16, .inl bf)), (nw, .inr (3, [.int nvi, .int nro, .int nwa, .int nlz, .int nds, .int ndy, .int nga, .int npa, .ref nw0, .ref nw1, .ref nw2, .ref nw3, .ref nw4, .ref nw5, .ref nw6, .ref nw7])), (nw0, .inl (cI, 8, .inl nfw)), (nw1, .inl (cI, 8, .inl nfo)), (nw2, .inl (cI, 8, .inl nfr)), (nw3, .inl (cI, 8, .inl nfn)), (nw4, .inl (cI, 8, .inl nft)), (nw5, .inl (cI, 3, .inl nfk)), (nw6, .inl (cI, 3, .inl nfa)), (nw7, .inl (cI, 3, .inl nfb))]) (va_runS (As := [.int x_1, .int k]) (rest := [.ref h]) ⟨hx, hb, hml, hown, hts⟩ k_2 (va_cwS 2 hts gX1_asked_X1_bodyFor rfl rfl rfl (by decide +kernel) ⟨Nat.le_of_ble_eq_true rfl, Nat.le_of_ble_eq_true rfl⟩) (wpz_S hZ hS hAb hP hK hD hN [] (by decide) rfl) rfl rfl hl.1 rfl (lv_room (Nat.le_of_ble_eq_true rfl)) dX1_asked_11 ⟨Nat.le_of_ble_eq_true rfl, Nat.le_of_ble_eq_true rfl⟩) hP hD hS hA [] [0, 1, 2, 3, 4, 5, 6, 7, 8, 9, 10] rfl rfl (by decide) (by decide) (fun r_2 u_2 H locs hw_2 hP hD hS => ?_)
  clear k_2
  have hP : va_P D kl [(h, .inr (1, [.ref nw, .ref bo, .int tc])), (bo, .inl (cI, 16, .inl bf)), (nw, .inr (3, [.int nvi, .int nro, .int nwa, .int nlz, .int nds, .int ndy, .int nga, .int npa, .ref nw0, .ref nw1, .ref nw2, .ref nw3, .ref nw4, .ref nw5, .ref nw6, .ref nw7])), (nw0, .inl (cI, 8, .inl nfw)), (nw1, .inl (cI, 8, .inl nfo)), (nw2, .inl (cI, 8, .inl nfr)), (nw3, .inl (cI, 8, .inl nfn)), (nw4, .inl (cI, 8, .inl nft)), (nw5, .inl (cI, 3, .inl nfk)), (nw6, .inl (cI, 3, .inl nfa)), (nw7, .inl (cI, 3, .inl nfb))] H := hP
  have hD : va_D A [(h, .inr (1, [.ref nw, .ref bo, .int tc])), (bo, .inl (cI, 16, .inl bf)), (nw, .inr (3, [.int nvi, .int nro, .int nwa, .int nlz, .int nds, .int ndy, .int nga, .int npa, .ref nw0, .ref nw1, .ref nw2, .ref nw3, .ref nw4, .ref nw5, .ref nw6, .ref nw7])), (nw0, .inl (cI, 8, .inl nfw)), (nw1, .inl (cI, 8, .inl nfo)), (nw2, .inl (cI, 8, .inl nfr)), (nw3, .inl (cI, 8, .inl nfn)), (nw4, .inl (cI, 8, .inl nft)), (nw5, .inl (cI, 3, .inl nfk)), (nw6, .inl (cI, 3, .inl nfa)), (nw7, .inl (cI, 3, .inl nfb))] := hD
  clear hw_2
  refine lv_iload_n hx hb dX1_asked_14 rfl (lv_at hl 1 rfl) ?_
  refine lv_iload_n hx hb dX1_asked_15 rfl (lv_at hl 3 rfl) ?_
  have k_3 := (g_X1_gives_9 l D cI cB cQ z H.size h nw bo nw0 nw1 nw2 nw3 nw4 nw5 nw6 nw7 tc nvi nro nwa nlz nds ndy nga npa r_2 w bf nfw nfo nfr nfn nft nfk nfa nfb nha (by omega) (by omega) (by omega) (by omega))
  refine wc_i (WC := [(h, .inr (1, [.ref nw, .ref bo, .int tc])), (bo, .inl (cI, 16, .inl bf)), (nw, .inr (3, [.int nvi, .int nro, .int nwa, .int nlz, .int nds, .int ndy, .int nga, .int npa, .ref nw0, .ref nw1, .ref nw2, .ref nw3, .ref nw4, .ref nw5, .ref nw6, .ref nw7])), (nw0, .inl (cI, 8, .inl nfw)), (nw1, .inl (cI, 8, .inl nfo)), (nw2, .inl (cI, 8, .inl nfr)), (nw3, .inl (cI, 8, .inl nfn)), (nw4, .inl (cI, 8, .inl nft)), (nw5, .inl (cI, 3, .inl nfk)), (nw6, .inl (cI, 3, .inl nfa)), (nw7, .inl (cI, 3, .inl nfb))]) (WR := []) (va_runV (As := [.int r_2, .int w, .int 9]) (rest := []) ⟨hx, hb, hml, hown, hts⟩ k_3 (cwV 3 hts gX1_asked_X1_gives rfl rfl rfl (by decide +kernel) ⟨Nat.le_of_ble_eq_true rfl, Nat.le_of_ble_eq_true rfl⟩) (wpz_V hZ hS hAb hP hK hD hN [0, 1, 2, 3, 4, 5, 6, 7, 8, 9, 10] (by decide) rfl (ci := 1) rfl rfl) rfl rfl hl.1 rfl (lv_room (Nat.le_of_ble_eq_true rfl)) dX1_asked_16 ⟨Nat.le_of_ble_eq_true rfl, Nat.le_of_ble_eq_true rfl⟩) hP hD hS hA [0, 1, 2, 3, 4, 5, 6, 7, 8, 9, 10] [] rfl rfl (by decide) (by decide) (fun r_3 u_3 H locs hw_3 hP hD hS => ?_)
  clear k_3
  obtain ⟨v3_0, v3_1⟩ := u_3
  have hP : va_P D kl [(h, .inr (1, [.ref nw, .ref bo, .int v3_0])), (bo, .inl (cI, 16, .inl v3_1)), (nw, .inr (3, [.int nvi, .int nro, .int nwa, .int nlz, .int nds, .int ndy, .int nga, .int npa, .ref nw0, .ref nw1, .ref nw2, .ref nw3, .ref nw4, .ref nw5, .ref nw6, .ref nw7])), (nw0, .inl (cI, 8, .inl nfw)), (nw1, .inl (cI, 8, .inl nfo)), (nw2, .inl (cI, 8, .inl nfr)), (nw3, .inl (cI, 8, .inl nfn)), (nw4, .inl (cI, 8, .inl nft)), (nw5, .inl (cI, 3, .inl nfk)), (nw6, .inl (cI, 3, .inl nfa)), (nw7, .inl (cI, 3, .inl nfb))] H := hP
  have hD : va_D A [(h, .inr (1, [.ref nw, .ref bo, .int v3_0])), (bo, .inl (cI, 16, .inl v3_1)), (nw, .inr (3, [.int nvi, .int nro, .int nwa, .int nlz, .int nds, .int ndy, .int nga, .int npa, .ref nw0, .ref nw1, .ref nw2, .ref nw3, .ref nw4, .ref nw5, .ref nw6, .ref nw7])), (nw0, .inl (cI, 8, .inl nfw)), (nw1, .inl (cI, 8, .inl nfo)), (nw2, .inl (cI, 8, .inl nfr)), (nw3, .inl (cI, 8, .inl nfn)), (nw4, .inl (cI, 8, .inl nft)), (nw5, .inl (cI, 3, .inl nfk)), (nw6, .inl (cI, 3, .inl nfa)), (nw7, .inl (cI, 3, .inl nfb))] := hD
  have c3_0 := hw_3
  have c3_0 : 0 ≤ v3_0.toInt ∧ v3_0.toInt ≤ 16 := c3_0
  exact wr_i (v := r_3) hx hb hr hlocks hS (v3_0, v3_1) (by exact show 0 ≤ (v3_0 : Int32).toInt ∧ (v3_0 : Int32).toInt ≤ 16 from by omega) (hP.sub [0, 1, 2, 3, 4, 5, 6, 7, 8, 9, 10] rfl) (hD.sub [0, 1, 2, 3, 4, 5, 6, 7, 8, 9, 10] (by decide) rfl) dX1_asked_19
set_option maxHeartbeats 4000000 in
set_option maxRecDepth 100000 in
theorem g_X1_gives_8 (l : Launch) (D : va_G) (cI cB cQ : ClassId) (z : ZT) (sz : Nat) (h : Nat) (nw : Nat) (bo : Nat) (nw0 : Nat) (nw1 : Nat) (nw2 : Nat) (nw3 : Nat) (nw4 : Nat) (nw5 : Nat) (nw6 : Nat) (nw7 : Nat) (tc : Int32) (nvi : Int32) (nro : Int32) (nwa : Int32) (nlz : Int32) (nds : Int32) (ndy : Int32) (nga : Int32) (npa : Int32) (k : Int32) (w : Int32) (bf : Nat → Int32) (nfw : Nat → Int32) (nfo : Nat → Int32) (nfr : Nat → Int32) (nfn : Nat → Int32) (nft : Nat → Int32) (nfk : Nat → Int32) (nfa : Nat → Int32) (nfb : Nat → Int32) (nha : ∀ j, j < 3 → 0 ≤ (nfa j).toInt ∧ (nfa j).toInt ≤ 7) (h_tc : 0 ≤ tc.toInt ∧ tc.toInt ≤ 16) (h_nvi : 0 ≤ nvi.toInt ∧ nvi.toInt ≤ 8) (h_nwa : 0 ≤ nwa.toInt ∧ nwa.toInt ≤ 3) (h_w : 0 ≤ w.toInt ∧ w.toInt ≤ 2) : miz l yX1_gives wsX1_gives ({ frames := 4, cells := 0, slots := 0, locals := 89 }) z D cI cB cQ [.ref h, .int k, .int w, .int 8] sz [(h, .inr (1, [.ref nw, .ref bo, .int tc])), (bo, .inl (cI, 16, .inl bf)), (nw, .inr (3, [.int nvi, .int nro, .int nwa, .int nlz, .int nds, .int ndy, .int nga, .int npa, .ref nw0, .ref nw1, .ref nw2, .ref nw3, .ref nw4, .ref nw5, .ref nw6, .ref nw7])), (nw0, .inl (cI, 8, .inl nfw)), (nw1, .inl (cI, 8, .inl nfo)), (nw2, .inl (cI, 8, .inl nfr)), (nw3, .inl (cI, 8, .inl nfn)), (nw4, .inl (cI, 8, .inl nft)), (nw5, .inl (cI, 3, .inl nfk)), (nw6, .inl (cI, 3, .inl nfa)), (nw7, .inl (cI, 3, .inl nfb))] (fun (r : Int32) (u : Int32 × (Nat → Int32)) => (0 ≤ u.1.toInt ∧ u.1.toInt ≤ 16)) (fun u => [(h, .inr (1, [.ref nw, .ref bo, .int u.1])), (bo, .inl (cI, 16, .inl u.2)), (nw, .inr (3, [.int nvi, .int nro, .int nwa, .int nlz, .int nds, .int ndy, .int nga, .int npa, .ref nw0, .ref nw1, .ref nw2, .ref nw3, .ref nw4, .ref nw5, .ref nw6, .ref nw7])), (nw0, .inl (cI, 8, .inl nfw)), (nw1, .inl (cI, 8, .inl nfo)), (nw2, .inl (cI, 8, .inl nfr)), (nw3, .inl (cI, 8, .inl nfn)), (nw4, .inl (cI, 8, .inl nft)), (nw5, .inl (cI, 3, .inl nfk)), (nw6, .inl (cI, 3, .inl nfa)), (nw7, .inl (cI, 3, .inl nfb))]) 0 0 := by
  refine wm_z (cc := cX1_gives) (maxL := 5) (ret := (some .int)) (by decide) rfl (Nat.le_of_ble_eq_true rfl) ?_
  intro p e s m below meth c A ls hZ hAb hx hb hr hml hown hts hlocks hin hP hK hD hN hA hl hS
  have hown : s.vm.findClass RX1 = some m.cls := hown
  have hl : lv_has ls 5 [(0, .ref h), (1, .int k), (2, .int w), (3, .int 8)] := hl
  change W p l e ({ frames := 4, cells := 0, slots := 0, locals := 89 }) s m ([.ref h, .int k, .int w, .int 8] : List Value).toArray below meth c s.heap [] 0 0 (MQ below (va_Qi (fun (r : Int32) (u : Int32 × (Nat → Int32)) => (0 ≤ u.1.toInt ∧ u.1.toInt ≤ 16)) (fun u t => wb D A ((fun u => [(h, .inr (1, [.ref nw, .ref bo, .int u.1])), (bo, .inl (cI, 16, .inl u.2)), (nw, .inr (3, [.int nvi, .int nro, .int nwa, .int nlz, .int nds, .int ndy, .int nga, .int npa, .ref nw0, .ref nw1, .ref nw2, .ref nw3, .ref nw4, .ref nw5, .ref nw6, .ref nw7])), (nw0, .inl (cI, 8, .inl nfw)), (nw1, .inl (cI, 8, .inl nfo)), (nw2, .inl (cI, 8, .inl nfr)), (nw3, .inl (cI, 8, .inl nfn)), (nw4, .inl (cI, 8, .inl nft)), (nw5, .inl (cI, 3, .inl nfk)), (nw6, .inl (cI, 3, .inl nfa)), (nw7, .inl (cI, 3, .inl nfb))]) u) t) A) ([.ref h, .int k, .int w, .int 8] : List Value).toArray s 0 0 A) (F0 m 0 ls [])
  refine lv_iload_n hx hb dX1_gives_0 rfl (lv_at hl 3 rfl) ?_
  refine lv_bipush (v := 8) hx hb dX1_gives_1 (by decide) ?_
  refine lv_icmp_le (tgt := 8) hx hb dX1_gives_3 (by decide) (fun _ => ?_) (fun c9 => absurd (by decide) c9)
  refine lv_aload_n hx hb dX1_gives_8 rfl (lv_at hl 0 rfl) ?_
  refine lv_iload_n hx hb dX1_gives_9 rfl (lv_at hl 1 rfl) ?_
  have k_1 := (g_X1_leaveTrace l D cI cB cQ s.heap.size h nw bo tc k bf (by omega))
  refine wc_v (WC := [(h, .inr (1, [.ref nw, .ref bo, .int tc])), (bo, .inl (cI, 16, .inl bf))]) (WR := [(nw, .inr (3, [.int nvi, .int nro, .int nwa, .int nlz, .int nds, .int ndy, .int nga, .int npa, .ref nw0, .ref nw1, .ref nw2, .ref nw3, .ref nw4, .ref nw5, .ref nw6, .ref nw7])), (nw0, .inl (cI, 8, .inl nfw)), (nw1, .inl (cI, 8, .inl nfo)), (nw2, .inl (cI, 8, .inl nfr)), (nw3, .inl (cI, 8, .inl nfn)), (nw4, .inl (cI, 8, .inl nft)), (nw5, .inl (cI, 3, .inl nfk)), (nw6, .inl (cI, 3, .inl nfa)), (nw7, .inl (cI, 3, .inl nfb))]) (va_runV (As := [.int k]) (rest := []) ⟨hx, hb, hml, hown, hts⟩ k_1 (cwV 1 hts gX1_gives_X1_leaveTrace rfl rfl rfl (by decide +kernel) ⟨Nat.le_of_ble_eq_true rfl, Nat.le_of_ble_eq_true rfl⟩) (wp_V hP hK hD hN [0, 1] (by decide) rfl (ci := 1) rfl rfl) rfl rfl hl.1 rfl (lv_room (Nat.le_of_ble_eq_true rfl)) dX1_gives_10 ⟨Nat.le_of_ble_eq_true rfl, Nat.le_of_ble_eq_true rfl⟩) hP hD hS hA [0, 1] [2, 3, 4, 5, 6, 7, 8, 9, 10] rfl rfl (by decide) (by decide) (fun u_1 H locs hw_1 hP hD hS => ?_)
  clear k_1
  obtain ⟨v1_0, v1_1⟩ := u_1
  have hP : va_P D kl [(nw, .inr (3, [.int nvi, .int nro, .int nwa, .int nlz, .int nds, .int ndy, .int nga, .int npa, .ref nw0, .ref nw1, .ref nw2, .ref nw3, .ref nw4, .ref nw5, .ref nw6, .ref nw7])), (nw0, .inl (cI, 8, .inl nfw)), (nw1, .inl (cI, 8, .inl nfo)), (nw2, .inl (cI, 8, .inl nfr)), (nw3, .inl (cI, 8, .inl nfn)), (nw4, .inl (cI, 8, .inl nft)), (nw5, .inl (cI, 3, .inl nfk)), (nw6, .inl (cI, 3, .inl nfa)), (nw7, .inl (cI, 3, .inl nfb)), (h, .inr (1, [.ref nw, .ref bo, .int v1_0])), (bo, .inl (cI, 16, .inl v1_1))] H := hP
  have hD : va_D A [(nw, .inr (3, [.int nvi, .int nro, .int nwa, .int nlz, .int nds, .int ndy, .int nga, .int npa, .ref nw0, .ref nw1, .ref nw2, .ref nw3, .ref nw4, .ref nw5, .ref nw6, .ref nw7])), (nw0, .inl (cI, 8, .inl nfw)), (nw1, .inl (cI, 8, .inl nfo)), (nw2, .inl (cI, 8, .inl nfr)), (nw3, .inl (cI, 8, .inl nfn)), (nw4, .inl (cI, 8, .inl nft)), (nw5, .inl (cI, 3, .inl nfk)), (nw6, .inl (cI, 3, .inl nfa)), (nw7, .inl (cI, 3, .inl nfb)), (h, .inr (1, [.ref nw, .ref bo, .int v1_0])), (bo, .inl (cI, 16, .inl v1_1))] := hD
  have c1_0 := hw_1
  have c1_0 : 0 ≤ v1_0.toInt ∧ v1_0.toInt ≤ 16 := c1_0
  refine lv_iload_n hx hb dX1_gives_13 rfl (lv_at hl 3 rfl) ?_
  refine lv_iconst (v := 1) hx hb dX1_gives_14 (by decide) ?_
  refine lv_iadd hx hb dX1_gives_15 ?_
  refine lv_topi (fun x_2 ex_2 => ?_)
  obtain rfl : x_2 = 9 := ex_2.trans (by decide)
  refine lv_istore (lv' := [(4, .int 9), (0, .ref h), (1, .int k), (2, .int w), (3, .int 8)]) hx hb dX1_gives_16 hl (by decide) rfl (fun ls hl => ?_)
  refine lv_iload_n hx hb dX1_gives_18 rfl (lv_at hl 2 rfl) ?_
  by_cases f_3 : k.toInt < 10 ∨ 24 < k.toInt
  · refine lv_tableOut (tgt := 232) hx hb dX1_gives_19 f_3 (by decide) ?_
    refine lv_iconst (v := 0) hx hb dX1_gives_232 (by decide) ?_
    exact wr_i (v := 0) hx hb hr hlocks hS (v1_0, v1_1) (by exact show 0 ≤ (v1_0 : Int32).toInt ∧ (v1_0 : Int32).toInt ≤ 16 from by omega) (hP.sub [9, 10, 0, 1, 2, 3, 4, 5, 6, 7, 8] rfl) (hD.sub [9, 10, 0, 1, 2, 3, 4, 5, 6, 7, 8] (by decide) rfl) dX1_gives_233
  · rcases (show k.toInt = 10 ∨ k.toInt = 11 ∨ k.toInt = 12 ∨ k.toInt = 13 ∨ k.toInt = 14 ∨ k.toInt = 15 ∨ k.toInt = 16 ∨ k.toInt = 17 ∨ k.toInt = 18 ∨ k.toInt = 19 ∨ k.toInt = 20 ∨ k.toInt = 21 ∨ k.toInt = 22 ∨ k.toInt = 23 ∨ k.toInt = 24 by omega) with g_3 | g_3 | g_3 | g_3 | g_3 | g_3 | g_3 | g_3 | g_3 | g_3 | g_3 | g_3 | g_3 | g_3 | g_3
    · refine lv_tableIn (off := 73) (tgt := 92) hx hb dX1_gives_19 (by omega) (by omega) (by rw [g_3]; rfl) (by decide) ?_
      refine lv_aload_n hx hb dX1_gives_92 rfl (lv_at hl 1 rfl) ?_
      refine va_get (D := D) (ci := 1) (v := .ref nw) (C := RX1) (T := TX1) (N := 3) hx hb hts (fun _ h => List.mem_cons_of_mem _ (List.mem_append_left _ (List.mem_append_right _ h))) hown hK hP 9 rfl rfl 0 (by decide) (hts (.fieldLink RX1 19 "WinterWalk$Asks" "land" "LWinterWalk$Land;") (List.mem_of_getElem? (i := 1) rfl)) (fun _ h9 => h9) rfl dX1_gives_93 ?_
      refine va_get (D := D) (ci := 3) (v := .ref nw6) (C := RX4) (T := TX4) (N := 16) hx hb hts (fun _ h => List.mem_cons_of_mem _ (List.mem_append_right _ h)) hown hK hP 0 rfl rfl 14 (by decide) (hts (.fieldLink RX1 59 "WinterWalk$Land" "at" "[I") (List.mem_of_getElem? (i := 2) rfl)) (fun _ h9 => h9) rfl dX1_gives_96 ?_
      refine lv_iload_n hx hb dX1_gives_99 rfl (lv_at hl 3 rfl) ?_
      refine va_iald hx hb hK hP 7 0 rfl rfl (zi_in (by omega) (by omega)) dX1_gives_100 ?_
      refine lv_topi (fun x_4 ex_4 => ?_)
      have f_4 : 0 ≤ x_4.toInt ∧ x_4.toInt ≤ 7 := by rw [ex_4]; exact nha _ (zi_cl (by omega) (by omega))
      clear ex_4
      exact wr_i (v := x_4) hx hb hr hlocks hS (v1_0, v1_1) (by exact show 0 ≤ (v1_0 : Int32).toInt ∧ (v1_0 : Int32).toInt ≤ 16 from by omega) (hP.sub [9, 10, 0, 1, 2, 3, 4, 5, 6, 7, 8] rfl) (hD.sub [9, 10, 0, 1, 2, 3, 4, 5, 6, 7, 8] (by decide) rfl) dX1_gives_101
    · refine lv_tableIn (off := 83) (tgt := 102) hx hb dX1_gives_19 (by omega) (by omega) (by rw [g_3]; rfl) (by decide) ?_
      refine lv_aload_n hx hb dX1_gives_102 rfl (lv_at hl 1 rfl) ?_
      refine lv_bipush (v := 10) hx hb dX1_gives_103 (by decide) ?_
      refine lv_iload_n hx hb dX1_gives_105 rfl (lv_at hl 3 rfl) ?_
      refine lv_iload hx hb dX1_gives_106 (lv_at hl 0 rfl) ?_
      have k_5 := (g_X1_gives_9 l D cI cB cQ z H.size h nw bo nw0 nw1 nw2 nw3 nw4 nw5 nw6 nw7 v1_0 nvi nro nwa nlz nds ndy nga npa 10 w v1_1 nfw nfo nfr nfn nft nfk nfa nfb nha (by omega) (by omega) (by omega) (by omega))
      refine wc_i (WC := [(h, .inr (1, [.ref nw, .ref bo, .int v1_0])), (bo, .inl (cI, 16, .inl v1_1)), (nw, .inr (3, [.int nvi, .int nro, .int nwa, .int nlz, .int nds, .int ndy, .int nga, .int npa, .ref nw0, .ref nw1, .ref nw2, .ref nw3, .ref nw4, .ref nw5, .ref nw6, .ref nw7])), (nw0, .inl (cI, 8, .inl nfw)), (nw1, .inl (cI, 8, .inl nfo)), (nw2, .inl (cI, 8, .inl nfr)), (nw3, .inl (cI, 8, .inl nfn)), (nw4, .inl (cI, 8, .inl nft)), (nw5, .inl (cI, 3, .inl nfk)), (nw6, .inl (cI, 3, .inl nfa)), (nw7, .inl (cI, 3, .inl nfb))]) (WR := []) (va_runV (As := [.int 10, .int w, .int 9]) (rest := []) ⟨hx, hb, hml, hown, hts⟩ k_5 (cwV 3 hts gX1_gives_X1_gives rfl rfl rfl (by decide +kernel) ⟨Nat.le_of_ble_eq_true rfl, Nat.le_of_ble_eq_true rfl⟩) (wpz_V hZ hS hAb hP hK hD hN [9, 10, 0, 1, 2, 3, 4, 5, 6, 7, 8] (by decide) rfl (ci := 1) rfl rfl) rfl rfl hl.1 rfl (lv_room (Nat.le_of_ble_eq_true rfl)) dX1_gives_108 ⟨Nat.le_of_ble_eq_true rfl, Nat.le_of_ble_eq_true rfl⟩) hP hD hS hA [9, 10, 0, 1, 2, 3, 4, 5, 6, 7, 8] [] rfl rfl (by decide) (by decide) (fun r_5 u_5 H locs hw_5 hP hD hS => ?_)
      clear k_5
      obtain ⟨v5_0, v5_1⟩ := u_5
      have hP : va_P D kl [(h, .inr (1, [.ref nw, .ref bo, .int v5_0])), (bo, .inl (cI, 16, .inl v5_1)), (nw, .inr (3, [.int nvi, .int nro, .int nwa, .int nlz, .int nds, .int ndy, .int nga, .int npa, .ref nw0, .ref nw1, .ref nw2, .ref nw3, .ref nw4, .ref nw5, .ref nw6, .ref nw7])), (nw0, .inl (cI, 8, .inl nfw)), (nw1, .inl (cI, 8, .inl nfo)), (nw2, .inl (cI, 8, .inl nfr)), (nw3, .inl (cI, 8, .inl nfn)), (nw4, .inl (cI, 8, .inl nft)), (nw5, .inl (cI, 3, .inl nfk)), (nw6, .inl (cI, 3, .inl nfa)), (nw7, .inl (cI, 3, .inl nfb))] H := hP
      have hD : va_D A [(h, .inr (1, [.ref nw, .ref bo, .int v5_0])), (bo, .inl (cI, 16, .inl v5_1)), (nw, .inr (3, [.int nvi, .int nro, .int nwa, .int nlz, .int nds, .int ndy, .int nga, .int npa, .ref nw0, .ref nw1, .ref nw2, .ref nw3, .ref nw4, .ref nw5, .ref nw6, .ref nw7])), (nw0, .inl (cI, 8, .inl nfw)), (nw1, .inl (cI, 8, .inl nfo)), (nw2, .inl (cI, 8, .inl nfr)), (nw3, .inl (cI, 8, .inl nfn)), (nw4, .inl (cI, 8, .inl nft)), (nw5, .inl (cI, 3, .inl nfk)), (nw6, .inl (cI, 3, .inl nfa)), (nw7, .inl (cI, 3, .inl nfb))] := hD
      have c5_0 := hw_5
      have c5_0 : 0 ≤ v5_0.toInt ∧ v5_0.toInt ≤ 16 := c5_0
      refine lv_aload_n hx hb dX1_gives_111 rfl (lv_at hl 1 rfl) ?_
      refine lv_iload_n hx hb dX1_gives_112 rfl (lv_at hl 3 rfl) ?_
      refine lv_iconst (v := 1) hx hb dX1_gives_113 (by decide) ?_
      refine lv_iload hx hb dX1_gives_114 (lv_at hl 0 rfl) ?_
      have k_6 := (g_X1_asked_9 l D cI cB cQ z H.size h nw bo nw0 nw1 nw2 nw3 nw4 nw5 nw6 nw7 v5_0 nvi nro nwa nlz nds ndy nga npa w 1 v5_1 nfw nfo nfr nfn nft nfk nfa nfb nha (by omega) (by omega) (by omega) (by omega))
      refine wc_i (WC := [(h, .inr (1, [.ref nw, .ref bo, .int v5_0])), (bo, .inl (cI, 16, .inl v5_1)), (nw, .inr (3, [.int nvi, .int nro, .int nwa, .int nlz, .int nds, .int ndy, .int nga, .int npa, .ref nw0, .ref nw1, .ref nw2, .ref nw3, .ref nw4, .ref nw5, .ref nw6, .ref nw7])), (nw0, .inl (cI, 8, .inl nfw)), (nw1, .inl (cI, 8, .inl nfo)), (nw2, .inl (cI, 8, .inl nfr)), (nw3, .inl (cI, 8, .inl nfn)), (nw4, .inl (cI, 8, .inl nft)), (nw5, .inl (cI, 3, .inl nfk)), (nw6, .inl (cI, 3, .inl nfa)), (nw7, .inl (cI, 3, .inl nfb))]) (WR := []) (va_runV (As := [.int w, .int 1, .int 9]) (rest := [.int r_5]) ⟨hx, hb, hml, hown, hts⟩ k_6 (cwV 3 hts gX1_gives_X1_asked rfl rfl rfl (by decide +kernel) ⟨Nat.le_of_ble_eq_true rfl, Nat.le_of_ble_eq_true rfl⟩) (wpz_V hZ hS hAb hP hK hD hN [0, 1, 2, 3, 4, 5, 6, 7, 8, 9, 10] (by decide) rfl (ci := 1) rfl rfl) rfl rfl hl.1 rfl (lv_room (Nat.le_of_ble_eq_true rfl)) dX1_gives_116 ⟨Nat.le_of_ble_eq_true rfl, Nat.le_of_ble_eq_true rfl⟩) hP hD hS hA [0, 1, 2, 3, 4, 5, 6, 7, 8, 9, 10] [] rfl rfl (by decide) (by decide) (fun r_6 u_6 H locs hw_6 hP hD hS => ?_)
      clear k_6
      obtain ⟨v6_0, v6_1⟩ := u_6
      have hP : va_P D kl [(h, .inr (1, [.ref nw, .ref bo, .int v6_0])), (bo, .inl (cI, 16, .inl v6_1)), (nw, .inr (3, [.int nvi, .int nro, .int nwa, .int nlz, .int nds, .int ndy, .int nga, .int npa, .ref nw0, .ref nw1, .ref nw2, .ref nw3, .ref nw4, .ref nw5, .ref nw6, .ref nw7])), (nw0, .inl (cI, 8, .inl nfw)), (nw1, .inl (cI, 8, .inl nfo)), (nw2, .inl (cI, 8, .inl nfr)), (nw3, .inl (cI, 8, .inl nfn)), (nw4, .inl (cI, 8, .inl nft)), (nw5, .inl (cI, 3, .inl nfk)), (nw6, .inl (cI, 3, .inl nfa)), (nw7, .inl (cI, 3, .inl nfb))] H := hP
      have hD : va_D A [(h, .inr (1, [.ref nw, .ref bo, .int v6_0])), (bo, .inl (cI, 16, .inl v6_1)), (nw, .inr (3, [.int nvi, .int nro, .int nwa, .int nlz, .int nds, .int ndy, .int nga, .int npa, .ref nw0, .ref nw1, .ref nw2, .ref nw3, .ref nw4, .ref nw5, .ref nw6, .ref nw7])), (nw0, .inl (cI, 8, .inl nfw)), (nw1, .inl (cI, 8, .inl nfo)), (nw2, .inl (cI, 8, .inl nfr)), (nw3, .inl (cI, 8, .inl nfn)), (nw4, .inl (cI, 8, .inl nft)), (nw5, .inl (cI, 3, .inl nfk)), (nw6, .inl (cI, 3, .inl nfa)), (nw7, .inl (cI, 3, .inl nfb))] := hD
      have c6_0 := hw_6
      have c6_0 : 0 ≤ v6_0.toInt ∧ v6_0.toInt ≤ 16 := c6_0
      refine lv_iadd hx hb dX1_gives_119 ?_
      refine lv_topi (fun x_7 ex_7 => ?_)
      clear ex_7
      exact wr_i (v := x_7) hx hb hr hlocks hS (v6_0, v6_1) (by exact show 0 ≤ (v6_0 : Int32).toInt ∧ (v6_0 : Int32).toInt ≤ 16 from by omega) (hP.sub [0, 1, 2, 3, 4, 5, 6, 7, 8, 9, 10] rfl) (hD.sub [0, 1, 2, 3, 4, 5, 6, 7, 8, 9, 10] (by decide) rfl) dX1_gives_120
    · refine lv_tableIn (off := 102) (tgt := 121) hx hb dX1_gives_19 (by omega) (by omega) (by rw [g_3]; rfl) (by decide) ?_
      refine lv_aload_n hx hb dX1_gives_121 rfl (lv_at hl 1 rfl) ?_
      refine lv_bipush (v := 11) hx hb dX1_gives_122 (by decide) ?_
      refine lv_iload_n hx hb dX1_gives_124 rfl (lv_at hl 3 rfl) ?_
      refine lv_iload hx hb dX1_gives_125 (lv_at hl 0 rfl) ?_
      have k_8 := (g_X1_gives_9 l D cI cB cQ z H.size h nw bo nw0 nw1 nw2 nw3 nw4 nw5 nw6 nw7 v1_0 nvi nro nwa nlz nds ndy nga npa 11 w v1_1 nfw nfo nfr nfn nft nfk nfa nfb nha (by omega) (by omega) (by omega) (by omega))
      refine wc_i (WC := [(h, .inr (1, [.ref nw, .ref bo, .int v1_0])), (bo, .inl (cI, 16, .inl v1_1)), (nw, .inr (3, [.int nvi, .int nro, .int nwa, .int nlz, .int nds, .int ndy, .int nga, .int npa, .ref nw0, .ref nw1, .ref nw2, .ref nw3, .ref nw4, .ref nw5, .ref nw6, .ref nw7])), (nw0, .inl (cI, 8, .inl nfw)), (nw1, .inl (cI, 8, .inl nfo)), (nw2, .inl (cI, 8, .inl nfr)), (nw3, .inl (cI, 8, .inl nfn)), (nw4, .inl (cI, 8, .inl nft)), (nw5, .inl (cI, 3, .inl nfk)), (nw6, .inl (cI, 3, .inl nfa)), (nw7, .inl (cI, 3, .inl nfb))]) (WR := []) (va_runV (As := [.int 11, .int w, .int 9]) (rest := []) ⟨hx, hb, hml, hown, hts⟩ k_8 (cwV 3 hts gX1_gives_X1_gives rfl rfl rfl (by decide +kernel) ⟨Nat.le_of_ble_eq_true rfl, Nat.le_of_ble_eq_true rfl⟩) (wpz_V hZ hS hAb hP hK hD hN [9, 10, 0, 1, 2, 3, 4, 5, 6, 7, 8] (by decide) rfl (ci := 1) rfl rfl) rfl rfl hl.1 rfl (lv_room (Nat.le_of_ble_eq_true rfl)) dX1_gives_127 ⟨Nat.le_of_ble_eq_true rfl, Nat.le_of_ble_eq_true rfl⟩) hP hD hS hA [9, 10, 0, 1, 2, 3, 4, 5, 6, 7, 8] [] rfl rfl (by decide) (by decide) (fun r_8 u_8 H locs hw_8 hP hD hS => ?_)
      clear k_8
      obtain ⟨v8_0, v8_1⟩ := u_8
      have hP : va_P D kl [(h, .inr (1, [.ref nw, .ref bo, .int v8_0])), (bo, .inl (cI, 16, .inl v8_1)), (nw, .inr (3, [.int nvi, .int nro, .int nwa, .int nlz, .int nds, .int ndy, .int nga, .int npa, .ref nw0, .ref nw1, .ref nw2, .ref nw3, .ref nw4, .ref nw5, .ref nw6, .ref nw7])), (nw0, .inl (cI, 8, .inl nfw)), (nw1, .inl (cI, 8, .inl nfo)), (nw2, .inl (cI, 8, .inl nfr)), (nw3, .inl (cI, 8, .inl nfn)), (nw4, .inl (cI, 8, .inl nft)), (nw5, .inl (cI, 3, .inl nfk)), (nw6, .inl (cI, 3, .inl nfa)), (nw7, .inl (cI, 3, .inl nfb))] H := hP
      have hD : va_D A [(h, .inr (1, [.ref nw, .ref bo, .int v8_0])), (bo, .inl (cI, 16, .inl v8_1)), (nw, .inr (3, [.int nvi, .int nro, .int nwa, .int nlz, .int nds, .int ndy, .int nga, .int npa, .ref nw0, .ref nw1, .ref nw2, .ref nw3, .ref nw4, .ref nw5, .ref nw6, .ref nw7])), (nw0, .inl (cI, 8, .inl nfw)), (nw1, .inl (cI, 8, .inl nfo)), (nw2, .inl (cI, 8, .inl nfr)), (nw3, .inl (cI, 8, .inl nfn)), (nw4, .inl (cI, 8, .inl nft)), (nw5, .inl (cI, 3, .inl nfk)), (nw6, .inl (cI, 3, .inl nfa)), (nw7, .inl (cI, 3, .inl nfb))] := hD
      have c8_0 := hw_8
      have c8_0 : 0 ≤ v8_0.toInt ∧ v8_0.toInt ≤ 16 := c8_0
      refine lv_ineg hx hb dX1_gives_130 ?_
      refine lv_topi (fun x_9 ex_9 => ?_)
      clear ex_9
      exact wr_i (v := x_9) hx hb hr hlocks hS (v8_0, v8_1) (by exact show 0 ≤ (v8_0 : Int32).toInt ∧ (v8_0 : Int32).toInt ≤ 16 from by omega) (hP.sub [0, 1, 2, 3, 4, 5, 6, 7, 8, 9, 10] rfl) (hD.sub [0, 1, 2, 3, 4, 5, 6, 7, 8, 9, 10] (by decide) rfl) dX1_gives_131
    · refine lv_tableIn (off := 113) (tgt := 132) hx hb dX1_gives_19 (by omega) (by omega) (by rw [g_3]; rfl) (by decide) ?_
      refine lv_aload_n hx hb dX1_gives_132 rfl (lv_at hl 1 rfl) ?_
      refine lv_bipush (v := 10) hx hb dX1_gives_133 (by decide) ?_
      refine lv_iload_n hx hb dX1_gives_135 rfl (lv_at hl 3 rfl) ?_
      refine lv_iload hx hb dX1_gives_136 (lv_at hl 0 rfl) ?_
      have k_10 := (g_X1_gives_9 l D cI cB cQ z H.size h nw bo nw0 nw1 nw2 nw3 nw4 nw5 nw6 nw7 v1_0 nvi nro nwa nlz nds ndy nga npa 10 w v1_1 nfw nfo nfr nfn nft nfk nfa nfb nha (by omega) (by omega) (by omega) (by omega))
      refine wc_i (WC := [(h, .inr (1, [.ref nw, .ref bo, .int v1_0])), (bo, .inl (cI, 16, .inl v1_1)), (nw, .inr (3, [.int nvi, .int nro, .int nwa, .int nlz, .int nds, .int ndy, .int nga, .int npa, .ref nw0, .ref nw1, .ref nw2, .ref nw3, .ref nw4, .ref nw5, .ref nw6, .ref nw7])), (nw0, .inl (cI, 8, .inl nfw)), (nw1, .inl (cI, 8, .inl nfo)), (nw2, .inl (cI, 8, .inl nfr)), (nw3, .inl (cI, 8, .inl nfn)), (nw4, .inl (cI, 8, .inl nft)), (nw5, .inl (cI, 3, .inl nfk)), (nw6, .inl (cI, 3, .inl nfa)), (nw7, .inl (cI, 3, .inl nfb))]) (WR := []) (va_runV (As := [.int 10, .int w, .int 9]) (rest := []) ⟨hx, hb, hml, hown, hts⟩ k_10 (cwV 3 hts gX1_gives_X1_gives rfl rfl rfl (by decide +kernel) ⟨Nat.le_of_ble_eq_true rfl, Nat.le_of_ble_eq_true rfl⟩) (wpz_V hZ hS hAb hP hK hD hN [9, 10, 0, 1, 2, 3, 4, 5, 6, 7, 8] (by decide) rfl (ci := 1) rfl rfl) rfl rfl hl.1 rfl (lv_room (Nat.le_of_ble_eq_true rfl)) dX1_gives_138 ⟨Nat.le_of_ble_eq_true rfl, Nat.le_of_ble_eq_true rfl⟩) hP hD hS hA [9, 10, 0, 1, 2, 3, 4, 5, 6, 7, 8] [] rfl rfl (by decide) (by decide) (fun r_10 u_10 H locs hw_10 hP hD hS => ?_)
      clear k_10
      obtain ⟨v10_0, v10_1⟩ := u_10
      have hP : va_P D kl [(h, .inr (1, [.ref nw, .ref bo, .int v10_0])), (bo, .inl (cI, 16, .inl v10_1)), (nw, .inr (3, [.int nvi, .int nro, .int nwa, .int nlz, .int nds, .int ndy, .int nga, .int npa, .ref nw0, .ref nw1, .ref nw2, .ref nw3, .ref nw4, .ref nw5, .ref nw6, .ref nw7])), (nw0, .inl (cI, 8, .inl nfw)), (nw1, .inl (cI, 8, .inl nfo)), (nw2, .inl (cI, 8, .inl nfr)), (nw3, .inl (cI, 8, .inl nfn)), (nw4, .inl (cI, 8, .inl nft)), (nw5, .inl (cI, 3, .inl nfk)), (nw6, .inl (cI, 3, .inl nfa)), (nw7, .inl (cI, 3, .inl nfb))] H := hP
      have hD : va_D A [(h, .inr (1, [.ref nw, .ref bo, .int v10_0])), (bo, .inl (cI, 16, .inl v10_1)), (nw, .inr (3, [.int nvi, .int nro, .int nwa, .int nlz, .int nds, .int ndy, .int nga, .int npa, .ref nw0, .ref nw1, .ref nw2, .ref nw3, .ref nw4, .ref nw5, .ref nw6, .ref nw7])), (nw0, .inl (cI, 8, .inl nfw)), (nw1, .inl (cI, 8, .inl nfo)), (nw2, .inl (cI, 8, .inl nfr)), (nw3, .inl (cI, 8, .inl nfn)), (nw4, .inl (cI, 8, .inl nft)), (nw5, .inl (cI, 3, .inl nfk)), (nw6, .inl (cI, 3, .inl nfa)), (nw7, .inl (cI, 3, .inl nfb))] := hD
      have c10_0 := hw_10
      have c10_0 : 0 ≤ v10_0.toInt ∧ v10_0.toInt ≤ 16 := c10_0
      refine lv_bipush (v := 100) hx hb dX1_gives_141 (by decide) ?_
      refine lv_isub hx hb dX1_gives_143 ?_
      refine lv_topi (fun x_11 ex_11 => ?_)
      clear ex_11
      exact wr_i (v := x_11) hx hb hr hlocks hS (v10_0, v10_1) (by exact show 0 ≤ (v10_0 : Int32).toInt ∧ (v10_0 : Int32).toInt ≤ 16 from by omega) (hP.sub [0, 1, 2, 3, 4, 5, 6, 7, 8, 9, 10] rfl) (hD.sub [0, 1, 2, 3, 4, 5, 6, 7, 8, 9, 10] (by decide) rfl) dX1_gives_144
    · refine lv_tableIn (off := 126) (tgt := 145) hx hb dX1_gives_19 (by omega) (by omega) (by rw [g_3]; rfl) (by decide) ?_
      refine lv_iconst (v := 2) hx hb dX1_gives_145 (by decide) ?_
      refine lv_aload_n hx hb dX1_gives_146 rfl (lv_at hl 1 rfl) ?_
      refine lv_bipush (v := 13) hx hb dX1_gives_147 (by decide) ?_
      refine lv_iload_n hx hb dX1_gives_149 rfl (lv_at hl 3 rfl) ?_
      refine lv_iload hx hb dX1_gives_150 (lv_at hl 0 rfl) ?_
      have k_12 := (g_X1_gives_9 l D cI cB cQ z H.size h nw bo nw0 nw1 nw2 nw3 nw4 nw5 nw6 nw7 v1_0 nvi nro nwa nlz nds ndy nga npa 13 w v1_1 nfw nfo nfr nfn nft nfk nfa nfb nha (by omega) (by omega) (by omega) (by omega))
      refine wc_i (WC := [(h, .inr (1, [.ref nw, .ref bo, .int v1_0])), (bo, .inl (cI, 16, .inl v1_1)), (nw, .inr (3, [.int nvi, .int nro, .int nwa, .int nlz, .int nds, .int ndy, .int nga, .int npa, .ref nw0, .ref nw1, .ref nw2, .ref nw3, .ref nw4, .ref nw5, .ref nw6, .ref nw7])), (nw0, .inl (cI, 8, .inl nfw)), (nw1, .inl (cI, 8, .inl nfo)), (nw2, .inl (cI, 8, .inl nfr)), (nw3, .inl (cI, 8, .inl nfn)), (nw4, .inl (cI, 8, .inl nft)), (nw5, .inl (cI, 3, .inl nfk)), (nw6, .inl (cI, 3, .inl nfa)), (nw7, .inl (cI, 3, .inl nfb))]) (WR := []) (va_runV (As := [.int 13, .int w, .int 9]) (rest := [.int 2]) ⟨hx, hb, hml, hown, hts⟩ k_12 (cwV 3 hts gX1_gives_X1_gives rfl rfl rfl (by decide +kernel) ⟨Nat.le_of_ble_eq_true rfl, Nat.le_of_ble_eq_true rfl⟩) (wpz_V hZ hS hAb hP hK hD hN [9, 10, 0, 1, 2, 3, 4, 5, 6, 7, 8] (by decide) rfl (ci := 1) rfl rfl) rfl rfl hl.1 rfl (lv_room (Nat.le_of_ble_eq_true rfl)) dX1_gives_152 ⟨Nat.le_of_ble_eq_true rfl, Nat.le_of_ble_eq_true rfl⟩) hP hD hS hA [9, 10, 0, 1, 2, 3, 4, 5, 6, 7, 8] [] rfl rfl (by decide) (by decide) (fun r_12 u_12 H locs hw_12 hP hD hS => ?_)
      clear k_12
      obtain ⟨v12_0, v12_1⟩ := u_12
      have hP : va_P D kl [(h, .inr (1, [.ref nw, .ref bo, .int v12_0])), (bo, .inl (cI, 16, .inl v12_1)), (nw, .inr (3, [.int nvi, .int nro, .int nwa, .int nlz, .int nds, .int ndy, .int nga, .int npa, .ref nw0, .ref nw1, .ref nw2, .ref nw3, .ref nw4, .ref nw5, .ref nw6, .ref nw7])), (nw0, .inl (cI, 8, .inl nfw)), (nw1, .inl (cI, 8, .inl nfo)), (nw2, .inl (cI, 8, .inl nfr)), (nw3, .inl (cI, 8, .inl nfn)), (nw4, .inl (cI, 8, .inl nft)), (nw5, .inl (cI, 3, .inl nfk)), (nw6, .inl (cI, 3, .inl nfa)), (nw7, .inl (cI, 3, .inl nfb))] H := hP
      have hD : va_D A [(h, .inr (1, [.ref nw, .ref bo, .int v12_0])), (bo, .inl (cI, 16, .inl v12_1)), (nw, .inr (3, [.int nvi, .int nro, .int nwa, .int nlz, .int nds, .int ndy, .int nga, .int npa, .ref nw0, .ref nw1, .ref nw2, .ref nw3, .ref nw4, .ref nw5, .ref nw6, .ref nw7])), (nw0, .inl (cI, 8, .inl nfw)), (nw1, .inl (cI, 8, .inl nfo)), (nw2, .inl (cI, 8, .inl nfr)), (nw3, .inl (cI, 8, .inl nfn)), (nw4, .inl (cI, 8, .inl nft)), (nw5, .inl (cI, 3, .inl nfk)), (nw6, .inl (cI, 3, .inl nfa)), (nw7, .inl (cI, 3, .inl nfb))] := hD
      have c12_0 := hw_12
      have c12_0 : 0 ≤ v12_0.toInt ∧ v12_0.toInt ≤ 16 := c12_0
      refine lv_imul hx hb dX1_gives_155 ?_
      refine lv_topi (fun x_13 ex_13 => ?_)
      clear ex_13
      exact wr_i (v := x_13) hx hb hr hlocks hS (v12_0, v12_1) (by exact show 0 ≤ (v12_0 : Int32).toInt ∧ (v12_0 : Int32).toInt ≤ 16 from by omega) (hP.sub [0, 1, 2, 3, 4, 5, 6, 7, 8, 9, 10] rfl) (hD.sub [0, 1, 2, 3, 4, 5, 6, 7, 8, 9, 10] (by decide) rfl) dX1_gives_156
    · refine lv_tableIn (off := 213) (tgt := 232) hx hb dX1_gives_19 (by omega) (by omega) (by rw [g_3]; rfl) (by decide) ?_
      refine lv_iconst (v := 0) hx hb dX1_gives_232 (by decide) ?_
      exact wr_i (v := 0) hx hb hr hlocks hS (v1_0, v1_1) (by exact show 0 ≤ (v1_0 : Int32).toInt ∧ (v1_0 : Int32).toInt ≤ 16 from by omega) (hP.sub [9, 10, 0, 1, 2, 3, 4, 5, 6, 7, 8] rfl) (hD.sub [9, 10, 0, 1, 2, 3, 4, 5, 6, 7, 8] (by decide) rfl) dX1_gives_233
    · refine lv_tableIn (off := 213) (tgt := 232) hx hb dX1_gives_19 (by omega) (by omega) (by rw [g_3]; rfl) (by decide) ?_
      refine lv_iconst (v := 0) hx hb dX1_gives_232 (by decide) ?_
      exact wr_i (v := 0) hx hb hr hlocks hS (v1_0, v1_1) (by exact show 0 ≤ (v1_0 : Int32).toInt ∧ (v1_0 : Int32).toInt ≤ 16 from by omega) (hP.sub [9, 10, 0, 1, 2, 3, 4, 5, 6, 7, 8] rfl) (hD.sub [9, 10, 0, 1, 2, 3, 4, 5, 6, 7, 8] (by decide) rfl) dX1_gives_233
    · refine lv_tableIn (off := 213) (tgt := 232) hx hb dX1_gives_19 (by omega) (by omega) (by rw [g_3]; rfl) (by decide) ?_
      refine lv_iconst (v := 0) hx hb dX1_gives_232 (by decide) ?_
      exact wr_i (v := 0) hx hb hr hlocks hS (v1_0, v1_1) (by exact show 0 ≤ (v1_0 : Int32).toInt ∧ (v1_0 : Int32).toInt ≤ 16 from by omega) (hP.sub [9, 10, 0, 1, 2, 3, 4, 5, 6, 7, 8] rfl) (hD.sub [9, 10, 0, 1, 2, 3, 4, 5, 6, 7, 8] (by decide) rfl) dX1_gives_233
    · refine lv_tableIn (off := 213) (tgt := 232) hx hb dX1_gives_19 (by omega) (by omega) (by rw [g_3]; rfl) (by decide) ?_
      refine lv_iconst (v := 0) hx hb dX1_gives_232 (by decide) ?_
      exact wr_i (v := 0) hx hb hr hlocks hS (v1_0, v1_1) (by exact show 0 ≤ (v1_0 : Int32).toInt ∧ (v1_0 : Int32).toInt ≤ 16 from by omega) (hP.sub [9, 10, 0, 1, 2, 3, 4, 5, 6, 7, 8] rfl) (hD.sub [9, 10, 0, 1, 2, 3, 4, 5, 6, 7, 8] (by decide) rfl) dX1_gives_233
    · refine lv_tableIn (off := 213) (tgt := 232) hx hb dX1_gives_19 (by omega) (by omega) (by rw [g_3]; rfl) (by decide) ?_
      refine lv_iconst (v := 0) hx hb dX1_gives_232 (by decide) ?_
      exact wr_i (v := 0) hx hb hr hlocks hS (v1_0, v1_1) (by exact show 0 ≤ (v1_0 : Int32).toInt ∧ (v1_0 : Int32).toInt ≤ 16 from by omega) (hP.sub [9, 10, 0, 1, 2, 3, 4, 5, 6, 7, 8] rfl) (hD.sub [9, 10, 0, 1, 2, 3, 4, 5, 6, 7, 8] (by decide) rfl) dX1_gives_233
    · refine lv_tableIn (off := 138) (tgt := 157) hx hb dX1_gives_19 (by omega) (by omega) (by rw [g_3]; rfl) (by decide) ?_
      refine lv_iload_n hx hb dX1_gives_157 rfl (lv_at hl 3 rfl) ?_
      exact wr_i (v := w) hx hb hr hlocks hS (v1_0, v1_1) (by exact show 0 ≤ (v1_0 : Int32).toInt ∧ (v1_0 : Int32).toInt ≤ 16 from by omega) (hP.sub [9, 10, 0, 1, 2, 3, 4, 5, 6, 7, 8] rfl) (hD.sub [9, 10, 0, 1, 2, 3, 4, 5, 6, 7, 8] (by decide) rfl) dX1_gives_158
    · refine lv_tableIn (off := 140) (tgt := 159) hx hb dX1_gives_19 (by omega) (by omega) (by rw [g_3]; rfl) (by decide) ?_
      refine lv_aload_n hx hb dX1_gives_159 rfl (lv_at hl 1 rfl) ?_
      refine lv_bipush (v := 20) hx hb dX1_gives_160 (by decide) ?_
      refine lv_iload_n hx hb dX1_gives_162 rfl (lv_at hl 3 rfl) ?_
      refine lv_iload hx hb dX1_gives_163 (lv_at hl 0 rfl) ?_
      have k_14 := (g_X1_gives_9 l D cI cB cQ z H.size h nw bo nw0 nw1 nw2 nw3 nw4 nw5 nw6 nw7 v1_0 nvi nro nwa nlz nds ndy nga npa 20 w v1_1 nfw nfo nfr nfn nft nfk nfa nfb nha (by omega) (by omega) (by omega) (by omega))
      refine wc_i (WC := [(h, .inr (1, [.ref nw, .ref bo, .int v1_0])), (bo, .inl (cI, 16, .inl v1_1)), (nw, .inr (3, [.int nvi, .int nro, .int nwa, .int nlz, .int nds, .int ndy, .int nga, .int npa, .ref nw0, .ref nw1, .ref nw2, .ref nw3, .ref nw4, .ref nw5, .ref nw6, .ref nw7])), (nw0, .inl (cI, 8, .inl nfw)), (nw1, .inl (cI, 8, .inl nfo)), (nw2, .inl (cI, 8, .inl nfr)), (nw3, .inl (cI, 8, .inl nfn)), (nw4, .inl (cI, 8, .inl nft)), (nw5, .inl (cI, 3, .inl nfk)), (nw6, .inl (cI, 3, .inl nfa)), (nw7, .inl (cI, 3, .inl nfb))]) (WR := []) (va_runV (As := [.int 20, .int w, .int 9]) (rest := []) ⟨hx, hb, hml, hown, hts⟩ k_14 (cwV 3 hts gX1_gives_X1_gives rfl rfl rfl (by decide +kernel) ⟨Nat.le_of_ble_eq_true rfl, Nat.le_of_ble_eq_true rfl⟩) (wpz_V hZ hS hAb hP hK hD hN [9, 10, 0, 1, 2, 3, 4, 5, 6, 7, 8] (by decide) rfl (ci := 1) rfl rfl) rfl rfl hl.1 rfl (lv_room (Nat.le_of_ble_eq_true rfl)) dX1_gives_165 ⟨Nat.le_of_ble_eq_true rfl, Nat.le_of_ble_eq_true rfl⟩) hP hD hS hA [9, 10, 0, 1, 2, 3, 4, 5, 6, 7, 8] [] rfl rfl (by decide) (by decide) (fun r_14 u_14 H locs hw_14 hP hD hS => ?_)
      clear k_14
      obtain ⟨v14_0, v14_1⟩ := u_14
      have hP : va_P D kl [(h, .inr (1, [.ref nw, .ref bo, .int v14_0])), (bo, .inl (cI, 16, .inl v14_1)), (nw, .inr (3, [.int nvi, .int nro, .int nwa, .int nlz, .int nds, .int ndy, .int nga, .int npa, .ref nw0, .ref nw1, .ref nw2, .ref nw3, .ref nw4, .ref nw5, .ref nw6, .ref nw7])), (nw0, .inl (cI, 8, .inl nfw)), (nw1, .inl (cI, 8, .inl nfo)), (nw2, .inl (cI, 8, .inl nfr)), (nw3, .inl (cI, 8, .inl nfn)), (nw4, .inl (cI, 8, .inl nft)), (nw5, .inl (cI, 3, .inl nfk)), (nw6, .inl (cI, 3, .inl nfa)), (nw7, .inl (cI, 3, .inl nfb))] H := hP
      have hD : va_D A [(h, .inr (1, [.ref nw, .ref bo, .int v14_0])), (bo, .inl (cI, 16, .inl v14_1)), (nw, .inr (3, [.int nvi, .int nro, .int nwa, .int nlz, .int nds, .int ndy, .int nga, .int npa, .ref nw0, .ref nw1, .ref nw2, .ref nw3, .ref nw4, .ref nw5, .ref nw6, .ref nw7])), (nw0, .inl (cI, 8, .inl nfw)), (nw1, .inl (cI, 8, .inl nfo)), (nw2, .inl (cI, 8, .inl nfr)), (nw3, .inl (cI, 8, .inl nfn)), (nw4, .inl (cI, 8, .inl nft)), (nw5, .inl (cI, 3, .inl nfk)), (nw6, .inl (cI, 3, .inl nfa)), (nw7, .inl (cI, 3, .inl nfb))] := hD
      have c14_0 := hw_14
      have c14_0 : 0 ≤ v14_0.toInt ∧ v14_0.toInt ≤ 16 := c14_0
      refine lv_aload_n hx hb dX1_gives_168 rfl (lv_at hl 1 rfl) ?_
      refine va_get (D := D) (ci := 1) (v := .ref nw) (C := RX1) (T := TX1) (N := 3) hx hb hts (fun _ h => List.mem_cons_of_mem _ (List.mem_append_left _ (List.mem_append_right _ h))) hown hK hP 0 rfl rfl 0 (by decide) (hts (.fieldLink RX1 19 "WinterWalk$Asks" "land" "LWinterWalk$Land;") (List.mem_of_getElem? (i := 1) rfl)) (fun _ h9 => h9) rfl dX1_gives_169 ?_
      refine va_get (D := D) (ci := 3) (v := .ref nw1) (C := RX4) (T := TX4) (N := 16) hx hb hts (fun _ h => List.mem_cons_of_mem _ (List.mem_append_right _ h)) hown hK hP 2 rfl rfl 9 (by decide) (hts (.fieldLink RX1 62 "WinterWalk$Land" "offers" "[I") (List.mem_of_getElem? (i := 3) rfl)) (fun _ h9 => h9) rfl dX1_gives_172 ?_
      refine lv_aload_n hx hb dX1_gives_175 rfl (lv_at hl 1 rfl) ?_
      refine va_get (D := D) (ci := 1) (v := .ref nw) (C := RX1) (T := TX1) (N := 3) hx hb hts (fun _ h => List.mem_cons_of_mem _ (List.mem_append_left _ (List.mem_append_right _ h))) hown hK hP 0 rfl rfl 0 (by decide) (hts (.fieldLink RX1 19 "WinterWalk$Asks" "land" "LWinterWalk$Land;") (List.mem_of_getElem? (i := 1) rfl)) (fun _ h9 => h9) rfl dX1_gives_176 ?_
      refine va_get (D := D) (ci := 3) (v := .ref nw6) (C := RX4) (T := TX4) (N := 16) hx hb hts (fun _ h => List.mem_cons_of_mem _ (List.mem_append_right _ h)) hown hK hP 2 rfl rfl 14 (by decide) (hts (.fieldLink RX1 59 "WinterWalk$Land" "at" "[I") (List.mem_of_getElem? (i := 2) rfl)) (fun _ h9 => h9) rfl dX1_gives_179 ?_
      refine lv_iload_n hx hb dX1_gives_182 rfl (lv_at hl 3 rfl) ?_
      refine va_iald hx hb hK hP 9 0 rfl rfl (zi_in (by omega) (by omega)) dX1_gives_183 ?_
      refine lv_topi (fun x_15 ex_15 => ?_)
      have f_15 : 0 ≤ x_15.toInt ∧ x_15.toInt ≤ 7 := by rw [ex_15]; exact nha _ (zi_cl (by omega) (by omega))
      clear ex_15
      refine va_iald hx hb hK hP 4 0 rfl rfl (zi_in (by omega) (by omega)) dX1_gives_184 ?_
      refine lv_topi (fun x_16 ex_16 => ?_)
      clear ex_16
      refine lv_iadd hx hb dX1_gives_185 ?_
      refine lv_topi (fun x_17 ex_17 => ?_)
      clear ex_17
      exact wr_i (v := x_17) hx hb hr hlocks hS (v14_0, v14_1) (by exact show 0 ≤ (v14_0 : Int32).toInt ∧ (v14_0 : Int32).toInt ≤ 16 from by omega) (hP.sub [0, 1, 2, 3, 4, 5, 6, 7, 8, 9, 10] rfl) (hD.sub [0, 1, 2, 3, 4, 5, 6, 7, 8, 9, 10] (by decide) rfl) dX1_gives_186
    · refine lv_tableIn (off := 168) (tgt := 187) hx hb dX1_gives_19 (by omega) (by omega) (by rw [g_3]; rfl) (by decide) ?_
      refine lv_aload_n hx hb dX1_gives_187 rfl (lv_at hl 1 rfl) ?_
      refine lv_bipush (v := 21) hx hb dX1_gives_188 (by decide) ?_
      refine lv_iload_n hx hb dX1_gives_190 rfl (lv_at hl 3 rfl) ?_
      refine lv_iload hx hb dX1_gives_191 (lv_at hl 0 rfl) ?_
      have k_18 := (g_X1_gives_9 l D cI cB cQ z H.size h nw bo nw0 nw1 nw2 nw3 nw4 nw5 nw6 nw7 v1_0 nvi nro nwa nlz nds ndy nga npa 21 w v1_1 nfw nfo nfr nfn nft nfk nfa nfb nha (by omega) (by omega) (by omega) (by omega))
      refine wc_i (WC := [(h, .inr (1, [.ref nw, .ref bo, .int v1_0])), (bo, .inl (cI, 16, .inl v1_1)), (nw, .inr (3, [.int nvi, .int nro, .int nwa, .int nlz, .int nds, .int ndy, .int nga, .int npa, .ref nw0, .ref nw1, .ref nw2, .ref nw3, .ref nw4, .ref nw5, .ref nw6, .ref nw7])), (nw0, .inl (cI, 8, .inl nfw)), (nw1, .inl (cI, 8, .inl nfo)), (nw2, .inl (cI, 8, .inl nfr)), (nw3, .inl (cI, 8, .inl nfn)), (nw4, .inl (cI, 8, .inl nft)), (nw5, .inl (cI, 3, .inl nfk)), (nw6, .inl (cI, 3, .inl nfa)), (nw7, .inl (cI, 3, .inl nfb))]) (WR := []) (va_runV (As := [.int 21, .int w, .int 9]) (rest := []) ⟨hx, hb, hml, hown, hts⟩ k_18 (cwV 3 hts gX1_gives_X1_gives rfl rfl rfl (by decide +kernel) ⟨Nat.le_of_ble_eq_true rfl, Nat.le_of_ble_eq_true rfl⟩) (wpz_V hZ hS hAb hP hK hD hN [9, 10, 0, 1, 2, 3, 4, 5, 6, 7, 8] (by decide) rfl (ci := 1) rfl rfl) rfl rfl hl.1 rfl (lv_room (Nat.le_of_ble_eq_true rfl)) dX1_gives_193 ⟨Nat.le_of_ble_eq_true rfl, Nat.le_of_ble_eq_true rfl⟩) hP hD hS hA [9, 10, 0, 1, 2, 3, 4, 5, 6, 7, 8] [] rfl rfl (by decide) (by decide) (fun r_18 u_18 H locs hw_18 hP hD hS => ?_)
      clear k_18
      obtain ⟨v18_0, v18_1⟩ := u_18
      have hP : va_P D kl [(h, .inr (1, [.ref nw, .ref bo, .int v18_0])), (bo, .inl (cI, 16, .inl v18_1)), (nw, .inr (3, [.int nvi, .int nro, .int nwa, .int nlz, .int nds, .int ndy, .int nga, .int npa, .ref nw0, .ref nw1, .ref nw2, .ref nw3, .ref nw4, .ref nw5, .ref nw6, .ref nw7])), (nw0, .inl (cI, 8, .inl nfw)), (nw1, .inl (cI, 8, .inl nfo)), (nw2, .inl (cI, 8, .inl nfr)), (nw3, .inl (cI, 8, .inl nfn)), (nw4, .inl (cI, 8, .inl nft)), (nw5, .inl (cI, 3, .inl nfk)), (nw6, .inl (cI, 3, .inl nfa)), (nw7, .inl (cI, 3, .inl nfb))] H := hP
      have hD : va_D A [(h, .inr (1, [.ref nw, .ref bo, .int v18_0])), (bo, .inl (cI, 16, .inl v18_1)), (nw, .inr (3, [.int nvi, .int nro, .int nwa, .int nlz, .int nds, .int ndy, .int nga, .int npa, .ref nw0, .ref nw1, .ref nw2, .ref nw3, .ref nw4, .ref nw5, .ref nw6, .ref nw7])), (nw0, .inl (cI, 8, .inl nfw)), (nw1, .inl (cI, 8, .inl nfo)), (nw2, .inl (cI, 8, .inl nfr)), (nw3, .inl (cI, 8, .inl nfn)), (nw4, .inl (cI, 8, .inl nft)), (nw5, .inl (cI, 3, .inl nfk)), (nw6, .inl (cI, 3, .inl nfa)), (nw7, .inl (cI, 3, .inl nfb))] := hD
      have c18_0 := hw_18
      have c18_0 : 0 ≤ v18_0.toInt ∧ v18_0.toInt ≤ 16 := c18_0
      refine lv_sipush (v := 1000) hx hb dX1_gives_196 (by decide) ?_
      refine lv_isub hx hb dX1_gives_199 ?_
      refine lv_topi (fun x_19 ex_19 => ?_)
      clear ex_19
      exact wr_i (v := x_19) hx hb hr hlocks hS (v18_0, v18_1) (by exact show 0 ≤ (v18_0 : Int32).toInt ∧ (v18_0 : Int32).toInt ≤ 16 from by omega) (hP.sub [0, 1, 2, 3, 4, 5, 6, 7, 8, 9, 10] rfl) (hD.sub [0, 1, 2, 3, 4, 5, 6, 7, 8, 9, 10] (by decide) rfl) dX1_gives_200
    · refine lv_tableIn (off := 182) (tgt := 201) hx hb dX1_gives_19 (by omega) (by omega) (by rw [g_3]; rfl) (by decide) ?_
      refine lv_aload_n hx hb dX1_gives_201 rfl (lv_at hl 1 rfl) ?_
      refine lv_bipush (v := 20) hx hb dX1_gives_202 (by decide) ?_
      refine lv_iload_n hx hb dX1_gives_204 rfl (lv_at hl 3 rfl) ?_
      refine lv_iload hx hb dX1_gives_205 (lv_at hl 0 rfl) ?_
      have k_20 := (g_X1_gives_9 l D cI cB cQ z H.size h nw bo nw0 nw1 nw2 nw3 nw4 nw5 nw6 nw7 v1_0 nvi nro nwa nlz nds ndy nga npa 20 w v1_1 nfw nfo nfr nfn nft nfk nfa nfb nha (by omega) (by omega) (by omega) (by omega))
      refine wc_i (WC := [(h, .inr (1, [.ref nw, .ref bo, .int v1_0])), (bo, .inl (cI, 16, .inl v1_1)), (nw, .inr (3, [.int nvi, .int nro, .int nwa, .int nlz, .int nds, .int ndy, .int nga, .int npa, .ref nw0, .ref nw1, .ref nw2, .ref nw3, .ref nw4, .ref nw5, .ref nw6, .ref nw7])), (nw0, .inl (cI, 8, .inl nfw)), (nw1, .inl (cI, 8, .inl nfo)), (nw2, .inl (cI, 8, .inl nfr)), (nw3, .inl (cI, 8, .inl nfn)), (nw4, .inl (cI, 8, .inl nft)), (nw5, .inl (cI, 3, .inl nfk)), (nw6, .inl (cI, 3, .inl nfa)), (nw7, .inl (cI, 3, .inl nfb))]) (WR := []) (va_runV (As := [.int 20, .int w, .int 9]) (rest := []) ⟨hx, hb, hml, hown, hts⟩ k_20 (cwV 3 hts gX1_gives_X1_gives rfl rfl rfl (by decide +kernel) ⟨Nat.le_of_ble_eq_true rfl, Nat.le_of_ble_eq_true rfl⟩) (wpz_V hZ hS hAb hP hK hD hN [9, 10, 0, 1, 2, 3, 4, 5, 6, 7, 8] (by decide) rfl (ci := 1) rfl rfl) rfl rfl hl.1 rfl (lv_room (Nat.le_of_ble_eq_true rfl)) dX1_gives_207 ⟨Nat.le_of_ble_eq_true rfl, Nat.le_of_ble_eq_true rfl⟩) hP hD hS hA [9, 10, 0, 1, 2, 3, 4, 5, 6, 7, 8] [] rfl rfl (by decide) (by decide) (fun r_20 u_20 H locs hw_20 hP hD hS => ?_)
      clear k_20
      obtain ⟨v20_0, v20_1⟩ := u_20
      have hP : va_P D kl [(h, .inr (1, [.ref nw, .ref bo, .int v20_0])), (bo, .inl (cI, 16, .inl v20_1)), (nw, .inr (3, [.int nvi, .int nro, .int nwa, .int nlz, .int nds, .int ndy, .int nga, .int npa, .ref nw0, .ref nw1, .ref nw2, .ref nw3, .ref nw4, .ref nw5, .ref nw6, .ref nw7])), (nw0, .inl (cI, 8, .inl nfw)), (nw1, .inl (cI, 8, .inl nfo)), (nw2, .inl (cI, 8, .inl nfr)), (nw3, .inl (cI, 8, .inl nfn)), (nw4, .inl (cI, 8, .inl nft)), (nw5, .inl (cI, 3, .inl nfk)), (nw6, .inl (cI, 3, .inl nfa)), (nw7, .inl (cI, 3, .inl nfb))] H := hP
      have hD : va_D A [(h, .inr (1, [.ref nw, .ref bo, .int v20_0])), (bo, .inl (cI, 16, .inl v20_1)), (nw, .inr (3, [.int nvi, .int nro, .int nwa, .int nlz, .int nds, .int ndy, .int nga, .int npa, .ref nw0, .ref nw1, .ref nw2, .ref nw3, .ref nw4, .ref nw5, .ref nw6, .ref nw7])), (nw0, .inl (cI, 8, .inl nfw)), (nw1, .inl (cI, 8, .inl nfo)), (nw2, .inl (cI, 8, .inl nfr)), (nw3, .inl (cI, 8, .inl nfn)), (nw4, .inl (cI, 8, .inl nft)), (nw5, .inl (cI, 3, .inl nfk)), (nw6, .inl (cI, 3, .inl nfa)), (nw7, .inl (cI, 3, .inl nfb))] := hD
      have c20_0 := hw_20
      have c20_0 : 0 ≤ v20_0.toInt ∧ v20_0.toInt ≤ 16 := c20_0
      refine lv_aload_n hx hb dX1_gives_210 rfl (lv_at hl 1 rfl) ?_
      refine lv_iload_n hx hb dX1_gives_211 rfl (lv_at hl 3 rfl) ?_
      refine lv_iconst (v := 0) hx hb dX1_gives_212 (by decide) ?_
      refine lv_iload hx hb dX1_gives_213 (lv_at hl 0 rfl) ?_
      have k_21 := (g_X1_asked_9 l D cI cB cQ z H.size h nw bo nw0 nw1 nw2 nw3 nw4 nw5 nw6 nw7 v20_0 nvi nro nwa nlz nds ndy nga npa w 0 v20_1 nfw nfo nfr nfn nft nfk nfa nfb nha (by omega) (by omega) (by omega) (by omega))
      refine wc_i (WC := [(h, .inr (1, [.ref nw, .ref bo, .int v20_0])), (bo, .inl (cI, 16, .inl v20_1)), (nw, .inr (3, [.int nvi, .int nro, .int nwa, .int nlz, .int nds, .int ndy, .int nga, .int npa, .ref nw0, .ref nw1, .ref nw2, .ref nw3, .ref nw4, .ref nw5, .ref nw6, .ref nw7])), (nw0, .inl (cI, 8, .inl nfw)), (nw1, .inl (cI, 8, .inl nfo)), (nw2, .inl (cI, 8, .inl nfr)), (nw3, .inl (cI, 8, .inl nfn)), (nw4, .inl (cI, 8, .inl nft)), (nw5, .inl (cI, 3, .inl nfk)), (nw6, .inl (cI, 3, .inl nfa)), (nw7, .inl (cI, 3, .inl nfb))]) (WR := []) (va_runV (As := [.int w, .int 0, .int 9]) (rest := [.int r_20]) ⟨hx, hb, hml, hown, hts⟩ k_21 (cwV 3 hts gX1_gives_X1_asked rfl rfl rfl (by decide +kernel) ⟨Nat.le_of_ble_eq_true rfl, Nat.le_of_ble_eq_true rfl⟩) (wpz_V hZ hS hAb hP hK hD hN [0, 1, 2, 3, 4, 5, 6, 7, 8, 9, 10] (by decide) rfl (ci := 1) rfl rfl) rfl rfl hl.1 rfl (lv_room (Nat.le_of_ble_eq_true rfl)) dX1_gives_215 ⟨Nat.le_of_ble_eq_true rfl, Nat.le_of_ble_eq_true rfl⟩) hP hD hS hA [0, 1, 2, 3, 4, 5, 6, 7, 8, 9, 10] [] rfl rfl (by decide) (by decide) (fun r_21 u_21 H locs hw_21 hP hD hS => ?_)
      clear k_21
      obtain ⟨v21_0, v21_1⟩ := u_21
      have hP : va_P D kl [(h, .inr (1, [.ref nw, .ref bo, .int v21_0])), (bo, .inl (cI, 16, .inl v21_1)), (nw, .inr (3, [.int nvi, .int nro, .int nwa, .int nlz, .int nds, .int ndy, .int nga, .int npa, .ref nw0, .ref nw1, .ref nw2, .ref nw3, .ref nw4, .ref nw5, .ref nw6, .ref nw7])), (nw0, .inl (cI, 8, .inl nfw)), (nw1, .inl (cI, 8, .inl nfo)), (nw2, .inl (cI, 8, .inl nfr)), (nw3, .inl (cI, 8, .inl nfn)), (nw4, .inl (cI, 8, .inl nft)), (nw5, .inl (cI, 3, .inl nfk)), (nw6, .inl (cI, 3, .inl nfa)), (nw7, .inl (cI, 3, .inl nfb))] H := hP
      have hD : va_D A [(h, .inr (1, [.ref nw, .ref bo, .int v21_0])), (bo, .inl (cI, 16, .inl v21_1)), (nw, .inr (3, [.int nvi, .int nro, .int nwa, .int nlz, .int nds, .int ndy, .int nga, .int npa, .ref nw0, .ref nw1, .ref nw2, .ref nw3, .ref nw4, .ref nw5, .ref nw6, .ref nw7])), (nw0, .inl (cI, 8, .inl nfw)), (nw1, .inl (cI, 8, .inl nfo)), (nw2, .inl (cI, 8, .inl nfr)), (nw3, .inl (cI, 8, .inl nfn)), (nw4, .inl (cI, 8, .inl nft)), (nw5, .inl (cI, 3, .inl nfk)), (nw6, .inl (cI, 3, .inl nfa)), (nw7, .inl (cI, 3, .inl nfb))] := hD
      have c21_0 := hw_21
      have c21_0 : 0 ≤ v21_0.toInt ∧ v21_0.toInt ≤ 16 := c21_0
      refine lv_isub hx hb dX1_gives_218 ?_
      refine lv_topi (fun x_22 ex_22 => ?_)
      clear ex_22
      exact wr_i (v := x_22) hx hb hr hlocks hS (v21_0, v21_1) (by exact show 0 ≤ (v21_0 : Int32).toInt ∧ (v21_0 : Int32).toInt ≤ 16 from by omega) (hP.sub [0, 1, 2, 3, 4, 5, 6, 7, 8, 9, 10] rfl) (hD.sub [0, 1, 2, 3, 4, 5, 6, 7, 8, 9, 10] (by decide) rfl) dX1_gives_219
    · refine lv_tableIn (off := 201) (tgt := 220) hx hb dX1_gives_19 (by omega) (by omega) (by rw [g_3]; rfl) (by decide) ?_
      refine lv_iconst (v := 2) hx hb dX1_gives_220 (by decide) ?_
      refine lv_aload_n hx hb dX1_gives_221 rfl (lv_at hl 1 rfl) ?_
      refine lv_bipush (v := 21) hx hb dX1_gives_222 (by decide) ?_
      refine lv_iload_n hx hb dX1_gives_224 rfl (lv_at hl 3 rfl) ?_
      refine lv_iload hx hb dX1_gives_225 (lv_at hl 0 rfl) ?_
      have k_23 := (g_X1_gives_9 l D cI cB cQ z H.size h nw bo nw0 nw1 nw2 nw3 nw4 nw5 nw6 nw7 v1_0 nvi nro nwa nlz nds ndy nga npa 21 w v1_1 nfw nfo nfr nfn nft nfk nfa nfb nha (by omega) (by omega) (by omega) (by omega))
      refine wc_i (WC := [(h, .inr (1, [.ref nw, .ref bo, .int v1_0])), (bo, .inl (cI, 16, .inl v1_1)), (nw, .inr (3, [.int nvi, .int nro, .int nwa, .int nlz, .int nds, .int ndy, .int nga, .int npa, .ref nw0, .ref nw1, .ref nw2, .ref nw3, .ref nw4, .ref nw5, .ref nw6, .ref nw7])), (nw0, .inl (cI, 8, .inl nfw)), (nw1, .inl (cI, 8, .inl nfo)), (nw2, .inl (cI, 8, .inl nfr)), (nw3, .inl (cI, 8, .inl nfn)), (nw4, .inl (cI, 8, .inl nft)), (nw5, .inl (cI, 3, .inl nfk)), (nw6, .inl (cI, 3, .inl nfa)), (nw7, .inl (cI, 3, .inl nfb))]) (WR := []) (va_runV (As := [.int 21, .int w, .int 9]) (rest := [.int 2]) ⟨hx, hb, hml, hown, hts⟩ k_23 (cwV 3 hts gX1_gives_X1_gives rfl rfl rfl (by decide +kernel) ⟨Nat.le_of_ble_eq_true rfl, Nat.le_of_ble_eq_true rfl⟩) (wpz_V hZ hS hAb hP hK hD hN [9, 10, 0, 1, 2, 3, 4, 5, 6, 7, 8] (by decide) rfl (ci := 1) rfl rfl) rfl rfl hl.1 rfl (lv_room (Nat.le_of_ble_eq_true rfl)) dX1_gives_227 ⟨Nat.le_of_ble_eq_true rfl, Nat.le_of_ble_eq_true rfl⟩) hP hD hS hA [9, 10, 0, 1, 2, 3, 4, 5, 6, 7, 8] [] rfl rfl (by decide) (by decide) (fun r_23 u_23 H locs hw_23 hP hD hS => ?_)
      clear k_23
      obtain ⟨v23_0, v23_1⟩ := u_23
      have hP : va_P D kl [(h, .inr (1, [.ref nw, .ref bo, .int v23_0])), (bo, .inl (cI, 16, .inl v23_1)), (nw, .inr (3, [.int nvi, .int nro, .int nwa, .int nlz, .int nds, .int ndy, .int nga, .int npa, .ref nw0, .ref nw1, .ref nw2, .ref nw3, .ref nw4, .ref nw5, .ref nw6, .ref nw7])), (nw0, .inl (cI, 8, .inl nfw)), (nw1, .inl (cI, 8, .inl nfo)), (nw2, .inl (cI, 8, .inl nfr)), (nw3, .inl (cI, 8, .inl nfn)), (nw4, .inl (cI, 8, .inl nft)), (nw5, .inl (cI, 3, .inl nfk)), (nw6, .inl (cI, 3, .inl nfa)), (nw7, .inl (cI, 3, .inl nfb))] H := hP
      have hD : va_D A [(h, .inr (1, [.ref nw, .ref bo, .int v23_0])), (bo, .inl (cI, 16, .inl v23_1)), (nw, .inr (3, [.int nvi, .int nro, .int nwa, .int nlz, .int nds, .int ndy, .int nga, .int npa, .ref nw0, .ref nw1, .ref nw2, .ref nw3, .ref nw4, .ref nw5, .ref nw6, .ref nw7])), (nw0, .inl (cI, 8, .inl nfw)), (nw1, .inl (cI, 8, .inl nfo)), (nw2, .inl (cI, 8, .inl nfr)), (nw3, .inl (cI, 8, .inl nfn)), (nw4, .inl (cI, 8, .inl nft)), (nw5, .inl (cI, 3, .inl nfk)), (nw6, .inl (cI, 3, .inl nfa)), (nw7, .inl (cI, 3, .inl nfb))] := hD
      have c23_0 := hw_23
      have c23_0 : 0 ≤ v23_0.toInt ∧ v23_0.toInt ≤ 16 := c23_0
      refine lv_imul hx hb dX1_gives_230 ?_
      refine lv_topi (fun x_24 ex_24 => ?_)
      clear ex_24
      exact wr_i (v := x_24) hx hb hr hlocks hS (v23_0, v23_1) (by exact show 0 ≤ (v23_0 : Int32).toInt ∧ (v23_0 : Int32).toInt ≤ 16 from by omega) (hP.sub [0, 1, 2, 3, 4, 5, 6, 7, 8, 9, 10] rfl) (hD.sub [0, 1, 2, 3, 4, 5, 6, 7, 8, 9, 10] (by decide) rfl) dX1_gives_231
set_option maxHeartbeats 4000000 in
set_option maxRecDepth 100000 in
theorem g_X1_asked_8 (l : Launch) (D : va_G) (cI cB cQ : ClassId) (z : ZT) (sz : Nat) (h : Nat) (nw : Nat) (bo : Nat) (nw0 : Nat) (nw1 : Nat) (nw2 : Nat) (nw3 : Nat) (nw4 : Nat) (nw5 : Nat) (nw6 : Nat) (nw7 : Nat) (tc : Int32) (nvi : Int32) (nro : Int32) (nwa : Int32) (nlz : Int32) (nds : Int32) (ndy : Int32) (nga : Int32) (npa : Int32) (w : Int32) (k : Int32) (bf : Nat → Int32) (nfw : Nat → Int32) (nfo : Nat → Int32) (nfr : Nat → Int32) (nfn : Nat → Int32) (nft : Nat → Int32) (nfk : Nat → Int32) (nfa : Nat → Int32) (nfb : Nat → Int32) (nha : ∀ j, j < 3 → 0 ≤ (nfa j).toInt ∧ (nfa j).toInt ≤ 7) (h_tc : 0 ≤ tc.toInt ∧ tc.toInt ≤ 16) (h_nvi : 0 ≤ nvi.toInt ∧ nvi.toInt ≤ 8) (h_nwa : 0 ≤ nwa.toInt ∧ nwa.toInt ≤ 3) (h_w : 0 ≤ w.toInt ∧ w.toInt ≤ 2) : miz l yX1_asked wsX1_asked ({ frames := 5, cells := 0, slots := 0, locals := 113 }) z D cI cB cQ [.ref h, .int w, .int k, .int 8] sz [(h, .inr (1, [.ref nw, .ref bo, .int tc])), (bo, .inl (cI, 16, .inl bf)), (nw, .inr (3, [.int nvi, .int nro, .int nwa, .int nlz, .int nds, .int ndy, .int nga, .int npa, .ref nw0, .ref nw1, .ref nw2, .ref nw3, .ref nw4, .ref nw5, .ref nw6, .ref nw7])), (nw0, .inl (cI, 8, .inl nfw)), (nw1, .inl (cI, 8, .inl nfo)), (nw2, .inl (cI, 8, .inl nfr)), (nw3, .inl (cI, 8, .inl nfn)), (nw4, .inl (cI, 8, .inl nft)), (nw5, .inl (cI, 3, .inl nfk)), (nw6, .inl (cI, 3, .inl nfa)), (nw7, .inl (cI, 3, .inl nfb))] (fun (r : Int32) (u : Int32 × (Nat → Int32)) => (0 ≤ u.1.toInt ∧ u.1.toInt ≤ 16)) (fun u => [(h, .inr (1, [.ref nw, .ref bo, .int u.1])), (bo, .inl (cI, 16, .inl u.2)), (nw, .inr (3, [.int nvi, .int nro, .int nwa, .int nlz, .int nds, .int ndy, .int nga, .int npa, .ref nw0, .ref nw1, .ref nw2, .ref nw3, .ref nw4, .ref nw5, .ref nw6, .ref nw7])), (nw0, .inl (cI, 8, .inl nfw)), (nw1, .inl (cI, 8, .inl nfo)), (nw2, .inl (cI, 8, .inl nfr)), (nw3, .inl (cI, 8, .inl nfn)), (nw4, .inl (cI, 8, .inl nft)), (nw5, .inl (cI, 3, .inl nfk)), (nw6, .inl (cI, 3, .inl nfa)), (nw7, .inl (cI, 3, .inl nfb))]) 0 0 := by
  refine wm_z (cc := cX1_asked) (maxL := 4) (ret := (some .int)) (by decide) rfl (Nat.le_of_ble_eq_true rfl) ?_
  intro p e s m below meth c A ls hZ hAb hx hb hr hml hown hts hlocks hin hP hK hD hN hA hl hS
  have hown : s.vm.findClass RX1 = some m.cls := hown
  have hl : lv_has ls 4 [(0, .ref h), (1, .int w), (2, .int k), (3, .int 8)] := hl
  change W p l e ({ frames := 5, cells := 0, slots := 0, locals := 113 }) s m ([.ref h, .int w, .int k, .int 8] : List Value).toArray below meth c s.heap [] 0 0 (MQ below (va_Qi (fun (r : Int32) (u : Int32 × (Nat → Int32)) => (0 ≤ u.1.toInt ∧ u.1.toInt ≤ 16)) (fun u t => wb D A ((fun u => [(h, .inr (1, [.ref nw, .ref bo, .int u.1])), (bo, .inl (cI, 16, .inl u.2)), (nw, .inr (3, [.int nvi, .int nro, .int nwa, .int nlz, .int nds, .int ndy, .int nga, .int npa, .ref nw0, .ref nw1, .ref nw2, .ref nw3, .ref nw4, .ref nw5, .ref nw6, .ref nw7])), (nw0, .inl (cI, 8, .inl nfw)), (nw1, .inl (cI, 8, .inl nfo)), (nw2, .inl (cI, 8, .inl nfr)), (nw3, .inl (cI, 8, .inl nfn)), (nw4, .inl (cI, 8, .inl nft)), (nw5, .inl (cI, 3, .inl nfk)), (nw6, .inl (cI, 3, .inl nfa)), (nw7, .inl (cI, 3, .inl nfb))]) u) t) A) ([.ref h, .int w, .int k, .int 8] : List Value).toArray s 0 0 A) (F0 m 0 ls [])
  refine lv_aload_n hx hb dX1_asked_0 rfl (lv_at hl 0 rfl) ?_
  refine lv_aload_n hx hb dX1_asked_1 rfl (lv_at hl 0 rfl) ?_
  refine va_get (D := D) (ci := 1) (v := .ref nw) (C := RX1) (T := TX1) (N := 3) hx hb hts (fun _ h => List.mem_cons_of_mem _ (List.mem_append_left _ (List.mem_append_right _ h))) hown hK hP 0 rfl rfl 0 (by decide) (hts (.fieldLink RX1 19 "WinterWalk$Asks" "land" "LWinterWalk$Land;") (List.mem_of_getElem? (i := 1) rfl)) (fun _ h9 => h9) rfl dX1_asked_2 ?_
  refine va_get (D := D) (ci := 3) (v := .ref nw5) (C := RX4) (T := TX4) (N := 16) hx hb hts (fun _ h => List.mem_cons_of_mem _ (List.mem_append_right _ h)) hown hK hP 2 rfl rfl 13 (by decide) (hts (.fieldLink RX1 27 "WinterWalk$Land" "kinds" "[I") (List.mem_of_getElem? (i := 2) rfl)) (fun _ h9 => h9) rfl dX1_asked_5 ?_
  refine lv_iload_n hx hb dX1_asked_8 rfl (lv_at hl 1 rfl) ?_
  refine va_iald hx hb hK hP 8 0 rfl rfl (zi_in (by omega) (by omega)) dX1_asked_9 ?_
  refine lv_topi (fun x_1 ex_1 => ?_)
  clear ex_1
  refine lv_iload_n hx hb dX1_asked_10 rfl (lv_at hl 2 rfl) ?_
  have k_2 := (g_X1_bodyFor l D cI cB cQ z s.heap.size x_1 k)
  refine wc_i (WC := []) (WR := [(h, .inr (1, [.ref nw, .ref bo, .int tc])), (bo, .inl (cI, 16, .inl bf)), (nw, .inr (3, [.int nvi, .int nro, .int nwa, .int nlz, .int nds, .int ndy, .int nga, .int npa, .ref nw0, .ref nw1, .ref nw2, .ref nw3, .ref nw4, .ref nw5, .ref nw6, .ref nw7])), (nw0, .inl (cI, 8, .inl nfw)), (nw1, .inl (cI, 8, .inl nfo)), (nw2, .inl (cI, 8, .inl nfr)), (nw3, .inl (cI, 8, .inl nfn)), (nw4, .inl (cI, 8, .inl nft)), (nw5, .inl (cI, 3, .inl nfk)), (nw6, .inl (cI, 3, .inl nfa)), (nw7, .inl (cI, 3, .inl nfb))]) (va_runS (As := [.int x_1, .int k]) (rest := [.ref h]) ⟨hx, hb, hml, hown, hts⟩ k_2 (va_cwS 2 hts gX1_asked_X1_bodyFor rfl rfl rfl (by decide +kernel) ⟨Nat.le_of_ble_eq_true rfl, Nat.le_of_ble_eq_true rfl⟩) (wpz_S hZ hS hAb hP hK hD hN [] (by decide) rfl) rfl rfl hl.1 rfl (lv_room (Nat.le_of_ble_eq_true rfl)) dX1_asked_11 ⟨Nat.le_of_ble_eq_true rfl, Nat.le_of_ble_eq_true rfl⟩) hP hD hS hA [] [0, 1, 2, 3, 4, 5, 6, 7, 8, 9, 10] rfl rfl (by decide) (by decide) (fun r_2 u_2 H locs hw_2 hP hD hS => ?_)
  clear k_2
  have hP : va_P D kl [(h, .inr (1, [.ref nw, .ref bo, .int tc])), (bo, .inl (cI, 16, .inl bf)), (nw, .inr (3, [.int nvi, .int nro, .int nwa, .int nlz, .int nds, .int ndy, .int nga, .int npa, .ref nw0, .ref nw1, .ref nw2, .ref nw3, .ref nw4, .ref nw5, .ref nw6, .ref nw7])), (nw0, .inl (cI, 8, .inl nfw)), (nw1, .inl (cI, 8, .inl nfo)), (nw2, .inl (cI, 8, .inl nfr)), (nw3, .inl (cI, 8, .inl nfn)), (nw4, .inl (cI, 8, .inl nft)), (nw5, .inl (cI, 3, .inl nfk)), (nw6, .inl (cI, 3, .inl nfa)), (nw7, .inl (cI, 3, .inl nfb))] H := hP
  have hD : va_D A [(h, .inr (1, [.ref nw, .ref bo, .int tc])), (bo, .inl (cI, 16, .inl bf)), (nw, .inr (3, [.int nvi, .int nro, .int nwa, .int nlz, .int nds, .int ndy, .int nga, .int npa, .ref nw0, .ref nw1, .ref nw2, .ref nw3, .ref nw4, .ref nw5, .ref nw6, .ref nw7])), (nw0, .inl (cI, 8, .inl nfw)), (nw1, .inl (cI, 8, .inl nfo)), (nw2, .inl (cI, 8, .inl nfr)), (nw3, .inl (cI, 8, .inl nfn)), (nw4, .inl (cI, 8, .inl nft)), (nw5, .inl (cI, 3, .inl nfk)), (nw6, .inl (cI, 3, .inl nfa)), (nw7, .inl (cI, 3, .inl nfb))] := hD
  clear hw_2
  refine lv_iload_n hx hb dX1_asked_14 rfl (lv_at hl 1 rfl) ?_
  refine lv_iload_n hx hb dX1_asked_15 rfl (lv_at hl 3 rfl) ?_
  have k_3 := (g_X1_gives_8 l D cI cB cQ z H.size h nw bo nw0 nw1 nw2 nw3 nw4 nw5 nw6 nw7 tc nvi nro nwa nlz nds ndy nga npa r_2 w bf nfw nfo nfr nfn nft nfk nfa nfb nha (by omega) (by omega) (by omega) (by omega))
  refine wc_i (WC := [(h, .inr (1, [.ref nw, .ref bo, .int tc])), (bo, .inl (cI, 16, .inl bf)), (nw, .inr (3, [.int nvi, .int nro, .int nwa, .int nlz, .int nds, .int ndy, .int nga, .int npa, .ref nw0, .ref nw1, .ref nw2, .ref nw3, .ref nw4, .ref nw5, .ref nw6, .ref nw7])), (nw0, .inl (cI, 8, .inl nfw)), (nw1, .inl (cI, 8, .inl nfo)), (nw2, .inl (cI, 8, .inl nfr)), (nw3, .inl (cI, 8, .inl nfn)), (nw4, .inl (cI, 8, .inl nft)), (nw5, .inl (cI, 3, .inl nfk)), (nw6, .inl (cI, 3, .inl nfa)), (nw7, .inl (cI, 3, .inl nfb))]) (WR := []) (va_runV (As := [.int r_2, .int w, .int 8]) (rest := []) ⟨hx, hb, hml, hown, hts⟩ k_3 (cwV 3 hts gX1_asked_X1_gives rfl rfl rfl (by decide +kernel) ⟨Nat.le_of_ble_eq_true rfl, Nat.le_of_ble_eq_true rfl⟩) (wpz_V hZ hS hAb hP hK hD hN [0, 1, 2, 3, 4, 5, 6, 7, 8, 9, 10] (by decide) rfl (ci := 1) rfl rfl) rfl rfl hl.1 rfl (lv_room (Nat.le_of_ble_eq_true rfl)) dX1_asked_16 ⟨Nat.le_of_ble_eq_true rfl, Nat.le_of_ble_eq_true rfl⟩) hP hD hS hA [0, 1, 2, 3, 4, 5, 6, 7, 8, 9, 10] [] rfl rfl (by decide) (by decide) (fun r_3 u_3 H locs hw_3 hP hD hS => ?_)
  clear k_3
  obtain ⟨v3_0, v3_1⟩ := u_3
  have hP : va_P D kl [(h, .inr (1, [.ref nw, .ref bo, .int v3_0])), (bo, .inl (cI, 16, .inl v3_1)), (nw, .inr (3, [.int nvi, .int nro, .int nwa, .int nlz, .int nds, .int ndy, .int nga, .int npa, .ref nw0, .ref nw1, .ref nw2, .ref nw3, .ref nw4, .ref nw5, .ref nw6, .ref nw7])), (nw0, .inl (cI, 8, .inl nfw)), (nw1, .inl (cI, 8, .inl nfo)), (nw2, .inl (cI, 8, .inl nfr)), (nw3, .inl (cI, 8, .inl nfn)), (nw4, .inl (cI, 8, .inl nft)), (nw5, .inl (cI, 3, .inl nfk)), (nw6, .inl (cI, 3, .inl nfa)), (nw7, .inl (cI, 3, .inl nfb))] H := hP
  have hD : va_D A [(h, .inr (1, [.ref nw, .ref bo, .int v3_0])), (bo, .inl (cI, 16, .inl v3_1)), (nw, .inr (3, [.int nvi, .int nro, .int nwa, .int nlz, .int nds, .int ndy, .int nga, .int npa, .ref nw0, .ref nw1, .ref nw2, .ref nw3, .ref nw4, .ref nw5, .ref nw6, .ref nw7])), (nw0, .inl (cI, 8, .inl nfw)), (nw1, .inl (cI, 8, .inl nfo)), (nw2, .inl (cI, 8, .inl nfr)), (nw3, .inl (cI, 8, .inl nfn)), (nw4, .inl (cI, 8, .inl nft)), (nw5, .inl (cI, 3, .inl nfk)), (nw6, .inl (cI, 3, .inl nfa)), (nw7, .inl (cI, 3, .inl nfb))] := hD
  have c3_0 := hw_3
  have c3_0 : 0 ≤ v3_0.toInt ∧ v3_0.toInt ≤ 16 := c3_0
  exact wr_i (v := r_3) hx hb hr hlocks hS (v3_0, v3_1) (by exact show 0 ≤ (v3_0 : Int32).toInt ∧ (v3_0 : Int32).toInt ≤ 16 from by omega) (hP.sub [0, 1, 2, 3, 4, 5, 6, 7, 8, 9, 10] rfl) (hD.sub [0, 1, 2, 3, 4, 5, 6, 7, 8, 9, 10] (by decide) rfl) dX1_asked_19
set_option maxHeartbeats 4000000 in
set_option maxRecDepth 100000 in
theorem g_X1_gives_7 (l : Launch) (D : va_G) (cI cB cQ : ClassId) (z : ZT) (sz : Nat) (h : Nat) (nw : Nat) (bo : Nat) (nw0 : Nat) (nw1 : Nat) (nw2 : Nat) (nw3 : Nat) (nw4 : Nat) (nw5 : Nat) (nw6 : Nat) (nw7 : Nat) (tc : Int32) (nvi : Int32) (nro : Int32) (nwa : Int32) (nlz : Int32) (nds : Int32) (ndy : Int32) (nga : Int32) (npa : Int32) (k : Int32) (w : Int32) (bf : Nat → Int32) (nfw : Nat → Int32) (nfo : Nat → Int32) (nfr : Nat → Int32) (nfn : Nat → Int32) (nft : Nat → Int32) (nfk : Nat → Int32) (nfa : Nat → Int32) (nfb : Nat → Int32) (nha : ∀ j, j < 3 → 0 ≤ (nfa j).toInt ∧ (nfa j).toInt ≤ 7) (h_tc : 0 ≤ tc.toInt ∧ tc.toInt ≤ 16) (h_nvi : 0 ≤ nvi.toInt ∧ nvi.toInt ≤ 8) (h_nwa : 0 ≤ nwa.toInt ∧ nwa.toInt ≤ 3) (h_w : 0 ≤ w.toInt ∧ w.toInt ≤ 2) : miz l yX1_gives wsX1_gives ({ frames := 6, cells := 0, slots := 0, locals := 136 }) z D cI cB cQ [.ref h, .int k, .int w, .int 7] sz [(h, .inr (1, [.ref nw, .ref bo, .int tc])), (bo, .inl (cI, 16, .inl bf)), (nw, .inr (3, [.int nvi, .int nro, .int nwa, .int nlz, .int nds, .int ndy, .int nga, .int npa, .ref nw0, .ref nw1, .ref nw2, .ref nw3, .ref nw4, .ref nw5, .ref nw6, .ref nw7])), (nw0, .inl (cI, 8, .inl nfw)), (nw1, .inl (cI, 8, .inl nfo)), (nw2, .inl (cI, 8, .inl nfr)), (nw3, .inl (cI, 8, .inl nfn)), (nw4, .inl (cI, 8, .inl nft)), (nw5, .inl (cI, 3, .inl nfk)), (nw6, .inl (cI, 3, .inl nfa)), (nw7, .inl (cI, 3, .inl nfb))] (fun (r : Int32) (u : Int32 × (Nat → Int32)) => (0 ≤ u.1.toInt ∧ u.1.toInt ≤ 16)) (fun u => [(h, .inr (1, [.ref nw, .ref bo, .int u.1])), (bo, .inl (cI, 16, .inl u.2)), (nw, .inr (3, [.int nvi, .int nro, .int nwa, .int nlz, .int nds, .int ndy, .int nga, .int npa, .ref nw0, .ref nw1, .ref nw2, .ref nw3, .ref nw4, .ref nw5, .ref nw6, .ref nw7])), (nw0, .inl (cI, 8, .inl nfw)), (nw1, .inl (cI, 8, .inl nfo)), (nw2, .inl (cI, 8, .inl nfr)), (nw3, .inl (cI, 8, .inl nfn)), (nw4, .inl (cI, 8, .inl nft)), (nw5, .inl (cI, 3, .inl nfk)), (nw6, .inl (cI, 3, .inl nfa)), (nw7, .inl (cI, 3, .inl nfb))]) 0 0 := by
  refine wm_z (cc := cX1_gives) (maxL := 5) (ret := (some .int)) (by decide) rfl (Nat.le_of_ble_eq_true rfl) ?_
  intro p e s m below meth c A ls hZ hAb hx hb hr hml hown hts hlocks hin hP hK hD hN hA hl hS
  have hown : s.vm.findClass RX1 = some m.cls := hown
  have hl : lv_has ls 5 [(0, .ref h), (1, .int k), (2, .int w), (3, .int 7)] := hl
  change W p l e ({ frames := 6, cells := 0, slots := 0, locals := 136 }) s m ([.ref h, .int k, .int w, .int 7] : List Value).toArray below meth c s.heap [] 0 0 (MQ below (va_Qi (fun (r : Int32) (u : Int32 × (Nat → Int32)) => (0 ≤ u.1.toInt ∧ u.1.toInt ≤ 16)) (fun u t => wb D A ((fun u => [(h, .inr (1, [.ref nw, .ref bo, .int u.1])), (bo, .inl (cI, 16, .inl u.2)), (nw, .inr (3, [.int nvi, .int nro, .int nwa, .int nlz, .int nds, .int ndy, .int nga, .int npa, .ref nw0, .ref nw1, .ref nw2, .ref nw3, .ref nw4, .ref nw5, .ref nw6, .ref nw7])), (nw0, .inl (cI, 8, .inl nfw)), (nw1, .inl (cI, 8, .inl nfo)), (nw2, .inl (cI, 8, .inl nfr)), (nw3, .inl (cI, 8, .inl nfn)), (nw4, .inl (cI, 8, .inl nft)), (nw5, .inl (cI, 3, .inl nfk)), (nw6, .inl (cI, 3, .inl nfa)), (nw7, .inl (cI, 3, .inl nfb))]) u) t) A) ([.ref h, .int k, .int w, .int 7] : List Value).toArray s 0 0 A) (F0 m 0 ls [])
  refine lv_iload_n hx hb dX1_gives_0 rfl (lv_at hl 3 rfl) ?_
  refine lv_bipush (v := 8) hx hb dX1_gives_1 (by decide) ?_
  refine lv_icmp_le (tgt := 8) hx hb dX1_gives_3 (by decide) (fun _ => ?_) (fun c9 => absurd (by decide) c9)
  refine lv_aload_n hx hb dX1_gives_8 rfl (lv_at hl 0 rfl) ?_
  refine lv_iload_n hx hb dX1_gives_9 rfl (lv_at hl 1 rfl) ?_
  have k_1 := (g_X1_leaveTrace l D cI cB cQ s.heap.size h nw bo tc k bf (by omega))
  refine wc_v (WC := [(h, .inr (1, [.ref nw, .ref bo, .int tc])), (bo, .inl (cI, 16, .inl bf))]) (WR := [(nw, .inr (3, [.int nvi, .int nro, .int nwa, .int nlz, .int nds, .int ndy, .int nga, .int npa, .ref nw0, .ref nw1, .ref nw2, .ref nw3, .ref nw4, .ref nw5, .ref nw6, .ref nw7])), (nw0, .inl (cI, 8, .inl nfw)), (nw1, .inl (cI, 8, .inl nfo)), (nw2, .inl (cI, 8, .inl nfr)), (nw3, .inl (cI, 8, .inl nfn)), (nw4, .inl (cI, 8, .inl nft)), (nw5, .inl (cI, 3, .inl nfk)), (nw6, .inl (cI, 3, .inl nfa)), (nw7, .inl (cI, 3, .inl nfb))]) (va_runV (As := [.int k]) (rest := []) ⟨hx, hb, hml, hown, hts⟩ k_1 (cwV 1 hts gX1_gives_X1_leaveTrace rfl rfl rfl (by decide +kernel) ⟨Nat.le_of_ble_eq_true rfl, Nat.le_of_ble_eq_true rfl⟩) (wp_V hP hK hD hN [0, 1] (by decide) rfl (ci := 1) rfl rfl) rfl rfl hl.1 rfl (lv_room (Nat.le_of_ble_eq_true rfl)) dX1_gives_10 ⟨Nat.le_of_ble_eq_true rfl, Nat.le_of_ble_eq_true rfl⟩) hP hD hS hA [0, 1] [2, 3, 4, 5, 6, 7, 8, 9, 10] rfl rfl (by decide) (by decide) (fun u_1 H locs hw_1 hP hD hS => ?_)
  clear k_1
  obtain ⟨v1_0, v1_1⟩ := u_1
  have hP : va_P D kl [(nw, .inr (3, [.int nvi, .int nro, .int nwa, .int nlz, .int nds, .int ndy, .int nga, .int npa, .ref nw0, .ref nw1, .ref nw2, .ref nw3, .ref nw4, .ref nw5, .ref nw6, .ref nw7])), (nw0, .inl (cI, 8, .inl nfw)), (nw1, .inl (cI, 8, .inl nfo)), (nw2, .inl (cI, 8, .inl nfr)), (nw3, .inl (cI, 8, .inl nfn)), (nw4, .inl (cI, 8, .inl nft)), (nw5, .inl (cI, 3, .inl nfk)), (nw6, .inl (cI, 3, .inl nfa)), (nw7, .inl (cI, 3, .inl nfb)), (h, .inr (1, [.ref nw, .ref bo, .int v1_0])), (bo, .inl (cI, 16, .inl v1_1))] H := hP
  have hD : va_D A [(nw, .inr (3, [.int nvi, .int nro, .int nwa, .int nlz, .int nds, .int ndy, .int nga, .int npa, .ref nw0, .ref nw1, .ref nw2, .ref nw3, .ref nw4, .ref nw5, .ref nw6, .ref nw7])), (nw0, .inl (cI, 8, .inl nfw)), (nw1, .inl (cI, 8, .inl nfo)), (nw2, .inl (cI, 8, .inl nfr)), (nw3, .inl (cI, 8, .inl nfn)), (nw4, .inl (cI, 8, .inl nft)), (nw5, .inl (cI, 3, .inl nfk)), (nw6, .inl (cI, 3, .inl nfa)), (nw7, .inl (cI, 3, .inl nfb)), (h, .inr (1, [.ref nw, .ref bo, .int v1_0])), (bo, .inl (cI, 16, .inl v1_1))] := hD
  have c1_0 := hw_1
  have c1_0 : 0 ≤ v1_0.toInt ∧ v1_0.toInt ≤ 16 := c1_0
  refine lv_iload_n hx hb dX1_gives_13 rfl (lv_at hl 3 rfl) ?_
  refine lv_iconst (v := 1) hx hb dX1_gives_14 (by decide) ?_
  refine lv_iadd hx hb dX1_gives_15 ?_
  refine lv_topi (fun x_2 ex_2 => ?_)
  obtain rfl : x_2 = 8 := ex_2.trans (by decide)
  refine lv_istore (lv' := [(4, .int 8), (0, .ref h), (1, .int k), (2, .int w), (3, .int 7)]) hx hb dX1_gives_16 hl (by decide) rfl (fun ls hl => ?_)
  refine lv_iload_n hx hb dX1_gives_18 rfl (lv_at hl 2 rfl) ?_
  by_cases f_3 : k.toInt < 10 ∨ 24 < k.toInt
  · refine lv_tableOut (tgt := 232) hx hb dX1_gives_19 f_3 (by decide) ?_
    refine lv_iconst (v := 0) hx hb dX1_gives_232 (by decide) ?_
    exact wr_i (v := 0) hx hb hr hlocks hS (v1_0, v1_1) (by exact show 0 ≤ (v1_0 : Int32).toInt ∧ (v1_0 : Int32).toInt ≤ 16 from by omega) (hP.sub [9, 10, 0, 1, 2, 3, 4, 5, 6, 7, 8] rfl) (hD.sub [9, 10, 0, 1, 2, 3, 4, 5, 6, 7, 8] (by decide) rfl) dX1_gives_233
  · rcases (show k.toInt = 10 ∨ k.toInt = 11 ∨ k.toInt = 12 ∨ k.toInt = 13 ∨ k.toInt = 14 ∨ k.toInt = 15 ∨ k.toInt = 16 ∨ k.toInt = 17 ∨ k.toInt = 18 ∨ k.toInt = 19 ∨ k.toInt = 20 ∨ k.toInt = 21 ∨ k.toInt = 22 ∨ k.toInt = 23 ∨ k.toInt = 24 by omega) with g_3 | g_3 | g_3 | g_3 | g_3 | g_3 | g_3 | g_3 | g_3 | g_3 | g_3 | g_3 | g_3 | g_3 | g_3
    · refine lv_tableIn (off := 73) (tgt := 92) hx hb dX1_gives_19 (by omega) (by omega) (by rw [g_3]; rfl) (by decide) ?_
      refine lv_aload_n hx hb dX1_gives_92 rfl (lv_at hl 1 rfl) ?_
      refine va_get (D := D) (ci := 1) (v := .ref nw) (C := RX1) (T := TX1) (N := 3) hx hb hts (fun _ h => List.mem_cons_of_mem _ (List.mem_append_left _ (List.mem_append_right _ h))) hown hK hP 9 rfl rfl 0 (by decide) (hts (.fieldLink RX1 19 "WinterWalk$Asks" "land" "LWinterWalk$Land;") (List.mem_of_getElem? (i := 1) rfl)) (fun _ h9 => h9) rfl dX1_gives_93 ?_
      refine va_get (D := D) (ci := 3) (v := .ref nw6) (C := RX4) (T := TX4) (N := 16) hx hb hts (fun _ h => List.mem_cons_of_mem _ (List.mem_append_right _ h)) hown hK hP 0 rfl rfl 14 (by decide) (hts (.fieldLink RX1 59 "WinterWalk$Land" "at" "[I") (List.mem_of_getElem? (i := 2) rfl)) (fun _ h9 => h9) rfl dX1_gives_96 ?_
      refine lv_iload_n hx hb dX1_gives_99 rfl (lv_at hl 3 rfl) ?_
      refine va_iald hx hb hK hP 7 0 rfl rfl (zi_in (by omega) (by omega)) dX1_gives_100 ?_
      refine lv_topi (fun x_4 ex_4 => ?_)
      have f_4 : 0 ≤ x_4.toInt ∧ x_4.toInt ≤ 7 := by rw [ex_4]; exact nha _ (zi_cl (by omega) (by omega))
      clear ex_4
      exact wr_i (v := x_4) hx hb hr hlocks hS (v1_0, v1_1) (by exact show 0 ≤ (v1_0 : Int32).toInt ∧ (v1_0 : Int32).toInt ≤ 16 from by omega) (hP.sub [9, 10, 0, 1, 2, 3, 4, 5, 6, 7, 8] rfl) (hD.sub [9, 10, 0, 1, 2, 3, 4, 5, 6, 7, 8] (by decide) rfl) dX1_gives_101
    · refine lv_tableIn (off := 83) (tgt := 102) hx hb dX1_gives_19 (by omega) (by omega) (by rw [g_3]; rfl) (by decide) ?_
      refine lv_aload_n hx hb dX1_gives_102 rfl (lv_at hl 1 rfl) ?_
      refine lv_bipush (v := 10) hx hb dX1_gives_103 (by decide) ?_
      refine lv_iload_n hx hb dX1_gives_105 rfl (lv_at hl 3 rfl) ?_
      refine lv_iload hx hb dX1_gives_106 (lv_at hl 0 rfl) ?_
      have k_5 := (g_X1_gives_8 l D cI cB cQ z H.size h nw bo nw0 nw1 nw2 nw3 nw4 nw5 nw6 nw7 v1_0 nvi nro nwa nlz nds ndy nga npa 10 w v1_1 nfw nfo nfr nfn nft nfk nfa nfb nha (by omega) (by omega) (by omega) (by omega))
      refine wc_i (WC := [(h, .inr (1, [.ref nw, .ref bo, .int v1_0])), (bo, .inl (cI, 16, .inl v1_1)), (nw, .inr (3, [.int nvi, .int nro, .int nwa, .int nlz, .int nds, .int ndy, .int nga, .int npa, .ref nw0, .ref nw1, .ref nw2, .ref nw3, .ref nw4, .ref nw5, .ref nw6, .ref nw7])), (nw0, .inl (cI, 8, .inl nfw)), (nw1, .inl (cI, 8, .inl nfo)), (nw2, .inl (cI, 8, .inl nfr)), (nw3, .inl (cI, 8, .inl nfn)), (nw4, .inl (cI, 8, .inl nft)), (nw5, .inl (cI, 3, .inl nfk)), (nw6, .inl (cI, 3, .inl nfa)), (nw7, .inl (cI, 3, .inl nfb))]) (WR := []) (va_runV (As := [.int 10, .int w, .int 8]) (rest := []) ⟨hx, hb, hml, hown, hts⟩ k_5 (cwV 3 hts gX1_gives_X1_gives rfl rfl rfl (by decide +kernel) ⟨Nat.le_of_ble_eq_true rfl, Nat.le_of_ble_eq_true rfl⟩) (wpz_V hZ hS hAb hP hK hD hN [9, 10, 0, 1, 2, 3, 4, 5, 6, 7, 8] (by decide) rfl (ci := 1) rfl rfl) rfl rfl hl.1 rfl (lv_room (Nat.le_of_ble_eq_true rfl)) dX1_gives_108 ⟨Nat.le_of_ble_eq_true rfl, Nat.le_of_ble_eq_true rfl⟩) hP hD hS hA [9, 10, 0, 1, 2, 3, 4, 5, 6, 7, 8] [] rfl rfl (by decide) (by decide) (fun r_5 u_5 H locs hw_5 hP hD hS => ?_)
      clear k_5
      obtain ⟨v5_0, v5_1⟩ := u_5
      have hP : va_P D kl [(h, .inr (1, [.ref nw, .ref bo, .int v5_0])), (bo, .inl (cI, 16, .inl v5_1)), (nw, .inr (3, [.int nvi, .int nro, .int nwa, .int nlz, .int nds, .int ndy, .int nga, .int npa, .ref nw0, .ref nw1, .ref nw2, .ref nw3, .ref nw4, .ref nw5, .ref nw6, .ref nw7])), (nw0, .inl (cI, 8, .inl nfw)), (nw1, .inl (cI, 8, .inl nfo)), (nw2, .inl (cI, 8, .inl nfr)), (nw3, .inl (cI, 8, .inl nfn)), (nw4, .inl (cI, 8, .inl nft)), (nw5, .inl (cI, 3, .inl nfk)), (nw6, .inl (cI, 3, .inl nfa)), (nw7, .inl (cI, 3, .inl nfb))] H := hP
      have hD : va_D A [(h, .inr (1, [.ref nw, .ref bo, .int v5_0])), (bo, .inl (cI, 16, .inl v5_1)), (nw, .inr (3, [.int nvi, .int nro, .int nwa, .int nlz, .int nds, .int ndy, .int nga, .int npa, .ref nw0, .ref nw1, .ref nw2, .ref nw3, .ref nw4, .ref nw5, .ref nw6, .ref nw7])), (nw0, .inl (cI, 8, .inl nfw)), (nw1, .inl (cI, 8, .inl nfo)), (nw2, .inl (cI, 8, .inl nfr)), (nw3, .inl (cI, 8, .inl nfn)), (nw4, .inl (cI, 8, .inl nft)), (nw5, .inl (cI, 3, .inl nfk)), (nw6, .inl (cI, 3, .inl nfa)), (nw7, .inl (cI, 3, .inl nfb))] := hD
      have c5_0 := hw_5
      have c5_0 : 0 ≤ v5_0.toInt ∧ v5_0.toInt ≤ 16 := c5_0
      refine lv_aload_n hx hb dX1_gives_111 rfl (lv_at hl 1 rfl) ?_
      refine lv_iload_n hx hb dX1_gives_112 rfl (lv_at hl 3 rfl) ?_
      refine lv_iconst (v := 1) hx hb dX1_gives_113 (by decide) ?_
      refine lv_iload hx hb dX1_gives_114 (lv_at hl 0 rfl) ?_
      have k_6 := (g_X1_asked_8 l D cI cB cQ z H.size h nw bo nw0 nw1 nw2 nw3 nw4 nw5 nw6 nw7 v5_0 nvi nro nwa nlz nds ndy nga npa w 1 v5_1 nfw nfo nfr nfn nft nfk nfa nfb nha (by omega) (by omega) (by omega) (by omega))
      refine wc_i (WC := [(h, .inr (1, [.ref nw, .ref bo, .int v5_0])), (bo, .inl (cI, 16, .inl v5_1)), (nw, .inr (3, [.int nvi, .int nro, .int nwa, .int nlz, .int nds, .int ndy, .int nga, .int npa, .ref nw0, .ref nw1, .ref nw2, .ref nw3, .ref nw4, .ref nw5, .ref nw6, .ref nw7])), (nw0, .inl (cI, 8, .inl nfw)), (nw1, .inl (cI, 8, .inl nfo)), (nw2, .inl (cI, 8, .inl nfr)), (nw3, .inl (cI, 8, .inl nfn)), (nw4, .inl (cI, 8, .inl nft)), (nw5, .inl (cI, 3, .inl nfk)), (nw6, .inl (cI, 3, .inl nfa)), (nw7, .inl (cI, 3, .inl nfb))]) (WR := []) (va_runV (As := [.int w, .int 1, .int 8]) (rest := [.int r_5]) ⟨hx, hb, hml, hown, hts⟩ k_6 (cwV 3 hts gX1_gives_X1_asked rfl rfl rfl (by decide +kernel) ⟨Nat.le_of_ble_eq_true rfl, Nat.le_of_ble_eq_true rfl⟩) (wpz_V hZ hS hAb hP hK hD hN [0, 1, 2, 3, 4, 5, 6, 7, 8, 9, 10] (by decide) rfl (ci := 1) rfl rfl) rfl rfl hl.1 rfl (lv_room (Nat.le_of_ble_eq_true rfl)) dX1_gives_116 ⟨Nat.le_of_ble_eq_true rfl, Nat.le_of_ble_eq_true rfl⟩) hP hD hS hA [0, 1, 2, 3, 4, 5, 6, 7, 8, 9, 10] [] rfl rfl (by decide) (by decide) (fun r_6 u_6 H locs hw_6 hP hD hS => ?_)
      clear k_6
      obtain ⟨v6_0, v6_1⟩ := u_6
      have hP : va_P D kl [(h, .inr (1, [.ref nw, .ref bo, .int v6_0])), (bo, .inl (cI, 16, .inl v6_1)), (nw, .inr (3, [.int nvi, .int nro, .int nwa, .int nlz, .int nds, .int ndy, .int nga, .int npa, .ref nw0, .ref nw1, .ref nw2, .ref nw3, .ref nw4, .ref nw5, .ref nw6, .ref nw7])), (nw0, .inl (cI, 8, .inl nfw)), (nw1, .inl (cI, 8, .inl nfo)), (nw2, .inl (cI, 8, .inl nfr)), (nw3, .inl (cI, 8, .inl nfn)), (nw4, .inl (cI, 8, .inl nft)), (nw5, .inl (cI, 3, .inl nfk)), (nw6, .inl (cI, 3, .inl nfa)), (nw7, .inl (cI, 3, .inl nfb))] H := hP
      have hD : va_D A [(h, .inr (1, [.ref nw, .ref bo, .int v6_0])), (bo, .inl (cI, 16, .inl v6_1)), (nw, .inr (3, [.int nvi, .int nro, .int nwa, .int nlz, .int nds, .int ndy, .int nga, .int npa, .ref nw0, .ref nw1, .ref nw2, .ref nw3, .ref nw4, .ref nw5, .ref nw6, .ref nw7])), (nw0, .inl (cI, 8, .inl nfw)), (nw1, .inl (cI, 8, .inl nfo)), (nw2, .inl (cI, 8, .inl nfr)), (nw3, .inl (cI, 8, .inl nfn)), (nw4, .inl (cI, 8, .inl nft)), (nw5, .inl (cI, 3, .inl nfk)), (nw6, .inl (cI, 3, .inl nfa)), (nw7, .inl (cI, 3, .inl nfb))] := hD
      have c6_0 := hw_6
      have c6_0 : 0 ≤ v6_0.toInt ∧ v6_0.toInt ≤ 16 := c6_0
      refine lv_iadd hx hb dX1_gives_119 ?_
      refine lv_topi (fun x_7 ex_7 => ?_)
      clear ex_7
      exact wr_i (v := x_7) hx hb hr hlocks hS (v6_0, v6_1) (by exact show 0 ≤ (v6_0 : Int32).toInt ∧ (v6_0 : Int32).toInt ≤ 16 from by omega) (hP.sub [0, 1, 2, 3, 4, 5, 6, 7, 8, 9, 10] rfl) (hD.sub [0, 1, 2, 3, 4, 5, 6, 7, 8, 9, 10] (by decide) rfl) dX1_gives_120
    · refine lv_tableIn (off := 102) (tgt := 121) hx hb dX1_gives_19 (by omega) (by omega) (by rw [g_3]; rfl) (by decide) ?_
      refine lv_aload_n hx hb dX1_gives_121 rfl (lv_at hl 1 rfl) ?_
      refine lv_bipush (v := 11) hx hb dX1_gives_122 (by decide) ?_
      refine lv_iload_n hx hb dX1_gives_124 rfl (lv_at hl 3 rfl) ?_
      refine lv_iload hx hb dX1_gives_125 (lv_at hl 0 rfl) ?_
      have k_8 := (g_X1_gives_8 l D cI cB cQ z H.size h nw bo nw0 nw1 nw2 nw3 nw4 nw5 nw6 nw7 v1_0 nvi nro nwa nlz nds ndy nga npa 11 w v1_1 nfw nfo nfr nfn nft nfk nfa nfb nha (by omega) (by omega) (by omega) (by omega))
      refine wc_i (WC := [(h, .inr (1, [.ref nw, .ref bo, .int v1_0])), (bo, .inl (cI, 16, .inl v1_1)), (nw, .inr (3, [.int nvi, .int nro, .int nwa, .int nlz, .int nds, .int ndy, .int nga, .int npa, .ref nw0, .ref nw1, .ref nw2, .ref nw3, .ref nw4, .ref nw5, .ref nw6, .ref nw7])), (nw0, .inl (cI, 8, .inl nfw)), (nw1, .inl (cI, 8, .inl nfo)), (nw2, .inl (cI, 8, .inl nfr)), (nw3, .inl (cI, 8, .inl nfn)), (nw4, .inl (cI, 8, .inl nft)), (nw5, .inl (cI, 3, .inl nfk)), (nw6, .inl (cI, 3, .inl nfa)), (nw7, .inl (cI, 3, .inl nfb))]) (WR := []) (va_runV (As := [.int 11, .int w, .int 8]) (rest := []) ⟨hx, hb, hml, hown, hts⟩ k_8 (cwV 3 hts gX1_gives_X1_gives rfl rfl rfl (by decide +kernel) ⟨Nat.le_of_ble_eq_true rfl, Nat.le_of_ble_eq_true rfl⟩) (wpz_V hZ hS hAb hP hK hD hN [9, 10, 0, 1, 2, 3, 4, 5, 6, 7, 8] (by decide) rfl (ci := 1) rfl rfl) rfl rfl hl.1 rfl (lv_room (Nat.le_of_ble_eq_true rfl)) dX1_gives_127 ⟨Nat.le_of_ble_eq_true rfl, Nat.le_of_ble_eq_true rfl⟩) hP hD hS hA [9, 10, 0, 1, 2, 3, 4, 5, 6, 7, 8] [] rfl rfl (by decide) (by decide) (fun r_8 u_8 H locs hw_8 hP hD hS => ?_)
      clear k_8
      obtain ⟨v8_0, v8_1⟩ := u_8
      have hP : va_P D kl [(h, .inr (1, [.ref nw, .ref bo, .int v8_0])), (bo, .inl (cI, 16, .inl v8_1)), (nw, .inr (3, [.int nvi, .int nro, .int nwa, .int nlz, .int nds, .int ndy, .int nga, .int npa, .ref nw0, .ref nw1, .ref nw2, .ref nw3, .ref nw4, .ref nw5, .ref nw6, .ref nw7])), (nw0, .inl (cI, 8, .inl nfw)), (nw1, .inl (cI, 8, .inl nfo)), (nw2, .inl (cI, 8, .inl nfr)), (nw3, .inl (cI, 8, .inl nfn)), (nw4, .inl (cI, 8, .inl nft)), (nw5, .inl (cI, 3, .inl nfk)), (nw6, .inl (cI, 3, .inl nfa)), (nw7, .inl (cI, 3, .inl nfb))] H := hP
      have hD : va_D A [(h, .inr (1, [.ref nw, .ref bo, .int v8_0])), (bo, .inl (cI, 16, .inl v8_1)), (nw, .inr (3, [.int nvi, .int nro, .int nwa, .int nlz, .int nds, .int ndy, .int nga, .int npa, .ref nw0, .ref nw1, .ref nw2, .ref nw3, .ref nw4, .ref nw5, .ref nw6, .ref nw7])), (nw0, .inl (cI, 8, .inl nfw)), (nw1, .inl (cI, 8, .inl nfo)), (nw2, .inl (cI, 8, .inl nfr)), (nw3, .inl (cI, 8, .inl nfn)), (nw4, .inl (cI, 8, .inl nft)), (nw5, .inl (cI, 3, .inl nfk)), (nw6, .inl (cI, 3, .inl nfa)), (nw7, .inl (cI, 3, .inl nfb))] := hD
      have c8_0 := hw_8
      have c8_0 : 0 ≤ v8_0.toInt ∧ v8_0.toInt ≤ 16 := c8_0
      refine lv_ineg hx hb dX1_gives_130 ?_
      refine lv_topi (fun x_9 ex_9 => ?_)
      clear ex_9
      exact wr_i (v := x_9) hx hb hr hlocks hS (v8_0, v8_1) (by exact show 0 ≤ (v8_0 : Int32).toInt ∧ (v8_0 : Int32).toInt ≤ 16 from by omega) (hP.sub [0, 1, 2, 3, 4, 5, 6, 7, 8, 9, 10] rfl) (hD.sub [0, 1, 2, 3, 4, 5, 6, 7, 8, 9, 10] (by decide) rfl) dX1_gives_131
    · refine lv_tableIn (off := 113) (tgt := 132) hx hb dX1_gives_19 (by omega) (by omega) (by rw [g_3]; rfl) (by decide) ?_
      refine lv_aload_n hx hb dX1_gives_132 rfl (lv_at hl 1 rfl) ?_
      refine lv_bipush (v := 10) hx hb dX1_gives_133 (by decide) ?_
      refine lv_iload_n hx hb dX1_gives_135 rfl (lv_at hl 3 rfl) ?_
      refine lv_iload hx hb dX1_gives_136 (lv_at hl 0 rfl) ?_
      have k_10 := (g_X1_gives_8 l D cI cB cQ z H.size h nw bo nw0 nw1 nw2 nw3 nw4 nw5 nw6 nw7 v1_0 nvi nro nwa nlz nds ndy nga npa 10 w v1_1 nfw nfo nfr nfn nft nfk nfa nfb nha (by omega) (by omega) (by omega) (by omega))
      refine wc_i (WC := [(h, .inr (1, [.ref nw, .ref bo, .int v1_0])), (bo, .inl (cI, 16, .inl v1_1)), (nw, .inr (3, [.int nvi, .int nro, .int nwa, .int nlz, .int nds, .int ndy, .int nga, .int npa, .ref nw0, .ref nw1, .ref nw2, .ref nw3, .ref nw4, .ref nw5, .ref nw6, .ref nw7])), (nw0, .inl (cI, 8, .inl nfw)), (nw1, .inl (cI, 8, .inl nfo)), (nw2, .inl (cI, 8, .inl nfr)), (nw3, .inl (cI, 8, .inl nfn)), (nw4, .inl (cI, 8, .inl nft)), (nw5, .inl (cI, 3, .inl nfk)), (nw6, .inl (cI, 3, .inl nfa)), (nw7, .inl (cI, 3, .inl nfb))]) (WR := []) (va_runV (As := [.int 10, .int w, .int 8]) (rest := []) ⟨hx, hb, hml, hown, hts⟩ k_10 (cwV 3 hts gX1_gives_X1_gives rfl rfl rfl (by decide +kernel) ⟨Nat.le_of_ble_eq_true rfl, Nat.le_of_ble_eq_true rfl⟩) (wpz_V hZ hS hAb hP hK hD hN [9, 10, 0, 1, 2, 3, 4, 5, 6, 7, 8] (by decide) rfl (ci := 1) rfl rfl) rfl rfl hl.1 rfl (lv_room (Nat.le_of_ble_eq_true rfl)) dX1_gives_138 ⟨Nat.le_of_ble_eq_true rfl, Nat.le_of_ble_eq_true rfl⟩) hP hD hS hA [9, 10, 0, 1, 2, 3, 4, 5, 6, 7, 8] [] rfl rfl (by decide) (by decide) (fun r_10 u_10 H locs hw_10 hP hD hS => ?_)
      clear k_10
      obtain ⟨v10_0, v10_1⟩ := u_10
      have hP : va_P D kl [(h, .inr (1, [.ref nw, .ref bo, .int v10_0])), (bo, .inl (cI, 16, .inl v10_1)), (nw, .inr (3, [.int nvi, .int nro, .int nwa, .int nlz, .int nds, .int ndy, .int nga, .int npa, .ref nw0, .ref nw1, .ref nw2, .ref nw3, .ref nw4, .ref nw5, .ref nw6, .ref nw7])), (nw0, .inl (cI, 8, .inl nfw)), (nw1, .inl (cI, 8, .inl nfo)), (nw2, .inl (cI, 8, .inl nfr)), (nw3, .inl (cI, 8, .inl nfn)), (nw4, .inl (cI, 8, .inl nft)), (nw5, .inl (cI, 3, .inl nfk)), (nw6, .inl (cI, 3, .inl nfa)), (nw7, .inl (cI, 3, .inl nfb))] H := hP
      have hD : va_D A [(h, .inr (1, [.ref nw, .ref bo, .int v10_0])), (bo, .inl (cI, 16, .inl v10_1)), (nw, .inr (3, [.int nvi, .int nro, .int nwa, .int nlz, .int nds, .int ndy, .int nga, .int npa, .ref nw0, .ref nw1, .ref nw2, .ref nw3, .ref nw4, .ref nw5, .ref nw6, .ref nw7])), (nw0, .inl (cI, 8, .inl nfw)), (nw1, .inl (cI, 8, .inl nfo)), (nw2, .inl (cI, 8, .inl nfr)), (nw3, .inl (cI, 8, .inl nfn)), (nw4, .inl (cI, 8, .inl nft)), (nw5, .inl (cI, 3, .inl nfk)), (nw6, .inl (cI, 3, .inl nfa)), (nw7, .inl (cI, 3, .inl nfb))] := hD
      have c10_0 := hw_10
      have c10_0 : 0 ≤ v10_0.toInt ∧ v10_0.toInt ≤ 16 := c10_0
      refine lv_bipush (v := 100) hx hb dX1_gives_141 (by decide) ?_
      refine lv_isub hx hb dX1_gives_143 ?_
      refine lv_topi (fun x_11 ex_11 => ?_)
      clear ex_11
      exact wr_i (v := x_11) hx hb hr hlocks hS (v10_0, v10_1) (by exact show 0 ≤ (v10_0 : Int32).toInt ∧ (v10_0 : Int32).toInt ≤ 16 from by omega) (hP.sub [0, 1, 2, 3, 4, 5, 6, 7, 8, 9, 10] rfl) (hD.sub [0, 1, 2, 3, 4, 5, 6, 7, 8, 9, 10] (by decide) rfl) dX1_gives_144
    · refine lv_tableIn (off := 126) (tgt := 145) hx hb dX1_gives_19 (by omega) (by omega) (by rw [g_3]; rfl) (by decide) ?_
      refine lv_iconst (v := 2) hx hb dX1_gives_145 (by decide) ?_
      refine lv_aload_n hx hb dX1_gives_146 rfl (lv_at hl 1 rfl) ?_
      refine lv_bipush (v := 13) hx hb dX1_gives_147 (by decide) ?_
      refine lv_iload_n hx hb dX1_gives_149 rfl (lv_at hl 3 rfl) ?_
      refine lv_iload hx hb dX1_gives_150 (lv_at hl 0 rfl) ?_
      have k_12 := (g_X1_gives_8 l D cI cB cQ z H.size h nw bo nw0 nw1 nw2 nw3 nw4 nw5 nw6 nw7 v1_0 nvi nro nwa nlz nds ndy nga npa 13 w v1_1 nfw nfo nfr nfn nft nfk nfa nfb nha (by omega) (by omega) (by omega) (by omega))
      refine wc_i (WC := [(h, .inr (1, [.ref nw, .ref bo, .int v1_0])), (bo, .inl (cI, 16, .inl v1_1)), (nw, .inr (3, [.int nvi, .int nro, .int nwa, .int nlz, .int nds, .int ndy, .int nga, .int npa, .ref nw0, .ref nw1, .ref nw2, .ref nw3, .ref nw4, .ref nw5, .ref nw6, .ref nw7])), (nw0, .inl (cI, 8, .inl nfw)), (nw1, .inl (cI, 8, .inl nfo)), (nw2, .inl (cI, 8, .inl nfr)), (nw3, .inl (cI, 8, .inl nfn)), (nw4, .inl (cI, 8, .inl nft)), (nw5, .inl (cI, 3, .inl nfk)), (nw6, .inl (cI, 3, .inl nfa)), (nw7, .inl (cI, 3, .inl nfb))]) (WR := []) (va_runV (As := [.int 13, .int w, .int 8]) (rest := [.int 2]) ⟨hx, hb, hml, hown, hts⟩ k_12 (cwV 3 hts gX1_gives_X1_gives rfl rfl rfl (by decide +kernel) ⟨Nat.le_of_ble_eq_true rfl, Nat.le_of_ble_eq_true rfl⟩) (wpz_V hZ hS hAb hP hK hD hN [9, 10, 0, 1, 2, 3, 4, 5, 6, 7, 8] (by decide) rfl (ci := 1) rfl rfl) rfl rfl hl.1 rfl (lv_room (Nat.le_of_ble_eq_true rfl)) dX1_gives_152 ⟨Nat.le_of_ble_eq_true rfl, Nat.le_of_ble_eq_true rfl⟩) hP hD hS hA [9, 10, 0, 1, 2, 3, 4, 5, 6, 7, 8] [] rfl rfl (by decide) (by decide) (fun r_12 u_12 H locs hw_12 hP hD hS => ?_)
      clear k_12
      obtain ⟨v12_0, v12_1⟩ := u_12
      have hP : va_P D kl [(h, .inr (1, [.ref nw, .ref bo, .int v12_0])), (bo, .inl (cI, 16, .inl v12_1)), (nw, .inr (3, [.int nvi, .int nro, .int nwa, .int nlz, .int nds, .int ndy, .int nga, .int npa, .ref nw0, .ref nw1, .ref nw2, .ref nw3, .ref nw4, .ref nw5, .ref nw6, .ref nw7])), (nw0, .inl (cI, 8, .inl nfw)), (nw1, .inl (cI, 8, .inl nfo)), (nw2, .inl (cI, 8, .inl nfr)), (nw3, .inl (cI, 8, .inl nfn)), (nw4, .inl (cI, 8, .inl nft)), (nw5, .inl (cI, 3, .inl nfk)), (nw6, .inl (cI, 3, .inl nfa)), (nw7, .inl (cI, 3, .inl nfb))] H := hP
      have hD : va_D A [(h, .inr (1, [.ref nw, .ref bo, .int v12_0])), (bo, .inl (cI, 16, .inl v12_1)), (nw, .inr (3, [.int nvi, .int nro, .int nwa, .int nlz, .int nds, .int ndy, .int nga, .int npa, .ref nw0, .ref nw1, .ref nw2, .ref nw3, .ref nw4, .ref nw5, .ref nw6, .ref nw7])), (nw0, .inl (cI, 8, .inl nfw)), (nw1, .inl (cI, 8, .inl nfo)), (nw2, .inl (cI, 8, .inl nfr)), (nw3, .inl (cI, 8, .inl nfn)), (nw4, .inl (cI, 8, .inl nft)), (nw5, .inl (cI, 3, .inl nfk)), (nw6, .inl (cI, 3, .inl nfa)), (nw7, .inl (cI, 3, .inl nfb))] := hD
      have c12_0 := hw_12
      have c12_0 : 0 ≤ v12_0.toInt ∧ v12_0.toInt ≤ 16 := c12_0
      refine lv_imul hx hb dX1_gives_155 ?_
      refine lv_topi (fun x_13 ex_13 => ?_)
      clear ex_13
      exact wr_i (v := x_13) hx hb hr hlocks hS (v12_0, v12_1) (by exact show 0 ≤ (v12_0 : Int32).toInt ∧ (v12_0 : Int32).toInt ≤ 16 from by omega) (hP.sub [0, 1, 2, 3, 4, 5, 6, 7, 8, 9, 10] rfl) (hD.sub [0, 1, 2, 3, 4, 5, 6, 7, 8, 9, 10] (by decide) rfl) dX1_gives_156
    · refine lv_tableIn (off := 213) (tgt := 232) hx hb dX1_gives_19 (by omega) (by omega) (by rw [g_3]; rfl) (by decide) ?_
      refine lv_iconst (v := 0) hx hb dX1_gives_232 (by decide) ?_
      exact wr_i (v := 0) hx hb hr hlocks hS (v1_0, v1_1) (by exact show 0 ≤ (v1_0 : Int32).toInt ∧ (v1_0 : Int32).toInt ≤ 16 from by omega) (hP.sub [9, 10, 0, 1, 2, 3, 4, 5, 6, 7, 8] rfl) (hD.sub [9, 10, 0, 1, 2, 3, 4, 5, 6, 7, 8] (by decide) rfl) dX1_gives_233
    · refine lv_tableIn (off := 213) (tgt := 232) hx hb dX1_gives_19 (by omega) (by omega) (by rw [g_3]; rfl) (by decide) ?_
      refine lv_iconst (v := 0) hx hb dX1_gives_232 (by decide) ?_
      exact wr_i (v := 0) hx hb hr hlocks hS (v1_0, v1_1) (by exact show 0 ≤ (v1_0 : Int32).toInt ∧ (v1_0 : Int32).toInt ≤ 16 from by omega) (hP.sub [9, 10, 0, 1, 2, 3, 4, 5, 6, 7, 8] rfl) (hD.sub [9, 10, 0, 1, 2, 3, 4, 5, 6, 7, 8] (by decide) rfl) dX1_gives_233
    · refine lv_tableIn (off := 213) (tgt := 232) hx hb dX1_gives_19 (by omega) (by omega) (by rw [g_3]; rfl) (by decide) ?_
      refine lv_iconst (v := 0) hx hb dX1_gives_232 (by decide) ?_
      exact wr_i (v := 0) hx hb hr hlocks hS (v1_0, v1_1) (by exact show 0 ≤ (v1_0 : Int32).toInt ∧ (v1_0 : Int32).toInt ≤ 16 from by omega) (hP.sub [9, 10, 0, 1, 2, 3, 4, 5, 6, 7, 8] rfl) (hD.sub [9, 10, 0, 1, 2, 3, 4, 5, 6, 7, 8] (by decide) rfl) dX1_gives_233
    · refine lv_tableIn (off := 213) (tgt := 232) hx hb dX1_gives_19 (by omega) (by omega) (by rw [g_3]; rfl) (by decide) ?_
      refine lv_iconst (v := 0) hx hb dX1_gives_232 (by decide) ?_
      exact wr_i (v := 0) hx hb hr hlocks hS (v1_0, v1_1) (by exact show 0 ≤ (v1_0 : Int32).toInt ∧ (v1_0 : Int32).toInt ≤ 16 from by omega) (hP.sub [9, 10, 0, 1, 2, 3, 4, 5, 6, 7, 8] rfl) (hD.sub [9, 10, 0, 1, 2, 3, 4, 5, 6, 7, 8] (by decide) rfl) dX1_gives_233
    · refine lv_tableIn (off := 213) (tgt := 232) hx hb dX1_gives_19 (by omega) (by omega) (by rw [g_3]; rfl) (by decide) ?_
      refine lv_iconst (v := 0) hx hb dX1_gives_232 (by decide) ?_
      exact wr_i (v := 0) hx hb hr hlocks hS (v1_0, v1_1) (by exact show 0 ≤ (v1_0 : Int32).toInt ∧ (v1_0 : Int32).toInt ≤ 16 from by omega) (hP.sub [9, 10, 0, 1, 2, 3, 4, 5, 6, 7, 8] rfl) (hD.sub [9, 10, 0, 1, 2, 3, 4, 5, 6, 7, 8] (by decide) rfl) dX1_gives_233
    · refine lv_tableIn (off := 138) (tgt := 157) hx hb dX1_gives_19 (by omega) (by omega) (by rw [g_3]; rfl) (by decide) ?_
      refine lv_iload_n hx hb dX1_gives_157 rfl (lv_at hl 3 rfl) ?_
      exact wr_i (v := w) hx hb hr hlocks hS (v1_0, v1_1) (by exact show 0 ≤ (v1_0 : Int32).toInt ∧ (v1_0 : Int32).toInt ≤ 16 from by omega) (hP.sub [9, 10, 0, 1, 2, 3, 4, 5, 6, 7, 8] rfl) (hD.sub [9, 10, 0, 1, 2, 3, 4, 5, 6, 7, 8] (by decide) rfl) dX1_gives_158
    · refine lv_tableIn (off := 140) (tgt := 159) hx hb dX1_gives_19 (by omega) (by omega) (by rw [g_3]; rfl) (by decide) ?_
      refine lv_aload_n hx hb dX1_gives_159 rfl (lv_at hl 1 rfl) ?_
      refine lv_bipush (v := 20) hx hb dX1_gives_160 (by decide) ?_
      refine lv_iload_n hx hb dX1_gives_162 rfl (lv_at hl 3 rfl) ?_
      refine lv_iload hx hb dX1_gives_163 (lv_at hl 0 rfl) ?_
      have k_14 := (g_X1_gives_8 l D cI cB cQ z H.size h nw bo nw0 nw1 nw2 nw3 nw4 nw5 nw6 nw7 v1_0 nvi nro nwa nlz nds ndy nga npa 20 w v1_1 nfw nfo nfr nfn nft nfk nfa nfb nha (by omega) (by omega) (by omega) (by omega))
      refine wc_i (WC := [(h, .inr (1, [.ref nw, .ref bo, .int v1_0])), (bo, .inl (cI, 16, .inl v1_1)), (nw, .inr (3, [.int nvi, .int nro, .int nwa, .int nlz, .int nds, .int ndy, .int nga, .int npa, .ref nw0, .ref nw1, .ref nw2, .ref nw3, .ref nw4, .ref nw5, .ref nw6, .ref nw7])), (nw0, .inl (cI, 8, .inl nfw)), (nw1, .inl (cI, 8, .inl nfo)), (nw2, .inl (cI, 8, .inl nfr)), (nw3, .inl (cI, 8, .inl nfn)), (nw4, .inl (cI, 8, .inl nft)), (nw5, .inl (cI, 3, .inl nfk)), (nw6, .inl (cI, 3, .inl nfa)), (nw7, .inl (cI, 3, .inl nfb))]) (WR := []) (va_runV (As := [.int 20, .int w, .int 8]) (rest := []) ⟨hx, hb, hml, hown, hts⟩ k_14 (cwV 3 hts gX1_gives_X1_gives rfl rfl rfl (by decide +kernel) ⟨Nat.le_of_ble_eq_true rfl, Nat.le_of_ble_eq_true rfl⟩) (wpz_V hZ hS hAb hP hK hD hN [9, 10, 0, 1, 2, 3, 4, 5, 6, 7, 8] (by decide) rfl (ci := 1) rfl rfl) rfl rfl hl.1 rfl (lv_room (Nat.le_of_ble_eq_true rfl)) dX1_gives_165 ⟨Nat.le_of_ble_eq_true rfl, Nat.le_of_ble_eq_true rfl⟩) hP hD hS hA [9, 10, 0, 1, 2, 3, 4, 5, 6, 7, 8] [] rfl rfl (by decide) (by decide) (fun r_14 u_14 H locs hw_14 hP hD hS => ?_)
      clear k_14
      obtain ⟨v14_0, v14_1⟩ := u_14
      have hP : va_P D kl [(h, .inr (1, [.ref nw, .ref bo, .int v14_0])), (bo, .inl (cI, 16, .inl v14_1)), (nw, .inr (3, [.int nvi, .int nro, .int nwa, .int nlz, .int nds, .int ndy, .int nga, .int npa, .ref nw0, .ref nw1, .ref nw2, .ref nw3, .ref nw4, .ref nw5, .ref nw6, .ref nw7])), (nw0, .inl (cI, 8, .inl nfw)), (nw1, .inl (cI, 8, .inl nfo)), (nw2, .inl (cI, 8, .inl nfr)), (nw3, .inl (cI, 8, .inl nfn)), (nw4, .inl (cI, 8, .inl nft)), (nw5, .inl (cI, 3, .inl nfk)), (nw6, .inl (cI, 3, .inl nfa)), (nw7, .inl (cI, 3, .inl nfb))] H := hP
      have hD : va_D A [(h, .inr (1, [.ref nw, .ref bo, .int v14_0])), (bo, .inl (cI, 16, .inl v14_1)), (nw, .inr (3, [.int nvi, .int nro, .int nwa, .int nlz, .int nds, .int ndy, .int nga, .int npa, .ref nw0, .ref nw1, .ref nw2, .ref nw3, .ref nw4, .ref nw5, .ref nw6, .ref nw7])), (nw0, .inl (cI, 8, .inl nfw)), (nw1, .inl (cI, 8, .inl nfo)), (nw2, .inl (cI, 8, .inl nfr)), (nw3, .inl (cI, 8, .inl nfn)), (nw4, .inl (cI, 8, .inl nft)), (nw5, .inl (cI, 3, .inl nfk)), (nw6, .inl (cI, 3, .inl nfa)), (nw7, .inl (cI, 3, .inl nfb))] := hD
      have c14_0 := hw_14
      have c14_0 : 0 ≤ v14_0.toInt ∧ v14_0.toInt ≤ 16 := c14_0
      refine lv_aload_n hx hb dX1_gives_168 rfl (lv_at hl 1 rfl) ?_
      refine va_get (D := D) (ci := 1) (v := .ref nw) (C := RX1) (T := TX1) (N := 3) hx hb hts (fun _ h => List.mem_cons_of_mem _ (List.mem_append_left _ (List.mem_append_right _ h))) hown hK hP 0 rfl rfl 0 (by decide) (hts (.fieldLink RX1 19 "WinterWalk$Asks" "land" "LWinterWalk$Land;") (List.mem_of_getElem? (i := 1) rfl)) (fun _ h9 => h9) rfl dX1_gives_169 ?_
      refine va_get (D := D) (ci := 3) (v := .ref nw1) (C := RX4) (T := TX4) (N := 16) hx hb hts (fun _ h => List.mem_cons_of_mem _ (List.mem_append_right _ h)) hown hK hP 2 rfl rfl 9 (by decide) (hts (.fieldLink RX1 62 "WinterWalk$Land" "offers" "[I") (List.mem_of_getElem? (i := 3) rfl)) (fun _ h9 => h9) rfl dX1_gives_172 ?_
      refine lv_aload_n hx hb dX1_gives_175 rfl (lv_at hl 1 rfl) ?_
      refine va_get (D := D) (ci := 1) (v := .ref nw) (C := RX1) (T := TX1) (N := 3) hx hb hts (fun _ h => List.mem_cons_of_mem _ (List.mem_append_left _ (List.mem_append_right _ h))) hown hK hP 0 rfl rfl 0 (by decide) (hts (.fieldLink RX1 19 "WinterWalk$Asks" "land" "LWinterWalk$Land;") (List.mem_of_getElem? (i := 1) rfl)) (fun _ h9 => h9) rfl dX1_gives_176 ?_
      refine va_get (D := D) (ci := 3) (v := .ref nw6) (C := RX4) (T := TX4) (N := 16) hx hb hts (fun _ h => List.mem_cons_of_mem _ (List.mem_append_right _ h)) hown hK hP 2 rfl rfl 14 (by decide) (hts (.fieldLink RX1 59 "WinterWalk$Land" "at" "[I") (List.mem_of_getElem? (i := 2) rfl)) (fun _ h9 => h9) rfl dX1_gives_179 ?_
      refine lv_iload_n hx hb dX1_gives_182 rfl (lv_at hl 3 rfl) ?_
      refine va_iald hx hb hK hP 9 0 rfl rfl (zi_in (by omega) (by omega)) dX1_gives_183 ?_
      refine lv_topi (fun x_15 ex_15 => ?_)
      have f_15 : 0 ≤ x_15.toInt ∧ x_15.toInt ≤ 7 := by rw [ex_15]; exact nha _ (zi_cl (by omega) (by omega))
      clear ex_15
      refine va_iald hx hb hK hP 4 0 rfl rfl (zi_in (by omega) (by omega)) dX1_gives_184 ?_
      refine lv_topi (fun x_16 ex_16 => ?_)
      clear ex_16
      refine lv_iadd hx hb dX1_gives_185 ?_
      refine lv_topi (fun x_17 ex_17 => ?_)
      clear ex_17
      exact wr_i (v := x_17) hx hb hr hlocks hS (v14_0, v14_1) (by exact show 0 ≤ (v14_0 : Int32).toInt ∧ (v14_0 : Int32).toInt ≤ 16 from by omega) (hP.sub [0, 1, 2, 3, 4, 5, 6, 7, 8, 9, 10] rfl) (hD.sub [0, 1, 2, 3, 4, 5, 6, 7, 8, 9, 10] (by decide) rfl) dX1_gives_186
    · refine lv_tableIn (off := 168) (tgt := 187) hx hb dX1_gives_19 (by omega) (by omega) (by rw [g_3]; rfl) (by decide) ?_
      refine lv_aload_n hx hb dX1_gives_187 rfl (lv_at hl 1 rfl) ?_
      refine lv_bipush (v := 21) hx hb dX1_gives_188 (by decide) ?_
      refine lv_iload_n hx hb dX1_gives_190 rfl (lv_at hl 3 rfl) ?_
      refine lv_iload hx hb dX1_gives_191 (lv_at hl 0 rfl) ?_
      have k_18 := (g_X1_gives_8 l D cI cB cQ z H.size h nw bo nw0 nw1 nw2 nw3 nw4 nw5 nw6 nw7 v1_0 nvi nro nwa nlz nds ndy nga npa 21 w v1_1 nfw nfo nfr nfn nft nfk nfa nfb nha (by omega) (by omega) (by omega) (by omega))
      refine wc_i (WC := [(h, .inr (1, [.ref nw, .ref bo, .int v1_0])), (bo, .inl (cI, 16, .inl v1_1)), (nw, .inr (3, [.int nvi, .int nro, .int nwa, .int nlz, .int nds, .int ndy, .int nga, .int npa, .ref nw0, .ref nw1, .ref nw2, .ref nw3, .ref nw4, .ref nw5, .ref nw6, .ref nw7])), (nw0, .inl (cI, 8, .inl nfw)), (nw1, .inl (cI, 8, .inl nfo)), (nw2, .inl (cI, 8, .inl nfr)), (nw3, .inl (cI, 8, .inl nfn)), (nw4, .inl (cI, 8, .inl nft)), (nw5, .inl (cI, 3, .inl nfk)), (nw6, .inl (cI, 3, .inl nfa)), (nw7, .inl (cI, 3, .inl nfb))]) (WR := []) (va_runV (As := [.int 21, .int w, .int 8]) (rest := []) ⟨hx, hb, hml, hown, hts⟩ k_18 (cwV 3 hts gX1_gives_X1_gives rfl rfl rfl (by decide +kernel) ⟨Nat.le_of_ble_eq_true rfl, Nat.le_of_ble_eq_true rfl⟩) (wpz_V hZ hS hAb hP hK hD hN [9, 10, 0, 1, 2, 3, 4, 5, 6, 7, 8] (by decide) rfl (ci := 1) rfl rfl) rfl rfl hl.1 rfl (lv_room (Nat.le_of_ble_eq_true rfl)) dX1_gives_193 ⟨Nat.le_of_ble_eq_true rfl, Nat.le_of_ble_eq_true rfl⟩) hP hD hS hA [9, 10, 0, 1, 2, 3, 4, 5, 6, 7, 8] [] rfl rfl (by decide) (by decide) (fun r_18 u_18 H locs hw_18 hP hD hS => ?_)
      clear k_18
      obtain ⟨v18_0, v18_1⟩ := u_18
      have hP : va_P D kl [(h, .inr (1, [.ref nw, .ref bo, .int v18_0])), (bo, .inl (cI, 16, .inl v18_1)), (nw, .inr (3, [.int nvi, .int nro, .int nwa, .int nlz, .int nds, .int ndy, .int nga, .int npa, .ref nw0, .ref nw1, .ref nw2, .ref nw3, .ref nw4, .ref nw5, .ref nw6, .ref nw7])), (nw0, .inl (cI, 8, .inl nfw)), (nw1, .inl (cI, 8, .inl nfo)), (nw2, .inl (cI, 8, .inl nfr)), (nw3, .inl (cI, 8, .inl nfn)), (nw4, .inl (cI, 8, .inl nft)), (nw5, .inl (cI, 3, .inl nfk)), (nw6, .inl (cI, 3, .inl nfa)), (nw7, .inl (cI, 3, .inl nfb))] H := hP
      have hD : va_D A [(h, .inr (1, [.ref nw, .ref bo, .int v18_0])), (bo, .inl (cI, 16, .inl v18_1)), (nw, .inr (3, [.int nvi, .int nro, .int nwa, .int nlz, .int nds, .int ndy, .int nga, .int npa, .ref nw0, .ref nw1, .ref nw2, .ref nw3, .ref nw4, .ref nw5, .ref nw6, .ref nw7])), (nw0, .inl (cI, 8, .inl nfw)), (nw1, .inl (cI, 8, .inl nfo)), (nw2, .inl (cI, 8, .inl nfr)), (nw3, .inl (cI, 8, .inl nfn)), (nw4, .inl (cI, 8, .inl nft)), (nw5, .inl (cI, 3, .inl nfk)), (nw6, .inl (cI, 3, .inl nfa)), (nw7, .inl (cI, 3, .inl nfb))] := hD
      have c18_0 := hw_18
      have c18_0 : 0 ≤ v18_0.toInt ∧ v18_0.toInt ≤ 16 := c18_0
      refine lv_sipush (v := 1000) hx hb dX1_gives_196 (by decide) ?_
      refine lv_isub hx hb dX1_gives_199 ?_
      refine lv_topi (fun x_19 ex_19 => ?_)
      clear ex_19
      exact wr_i (v := x_19) hx hb hr hlocks hS (v18_0, v18_1) (by exact show 0 ≤ (v18_0 : Int32).toInt ∧ (v18_0 : Int32).toInt ≤ 16 from by omega) (hP.sub [0, 1, 2, 3, 4, 5, 6, 7, 8, 9, 10] rfl) (hD.sub [0, 1, 2, 3, 4, 5, 6, 7, 8, 9, 10] (by decide) rfl) dX1_gives_200
    · refine lv_tableIn (off := 182) (tgt := 201) hx hb dX1_gives_19 (by omega) (by omega) (by rw [g_3]; rfl) (by decide) ?_
      refine lv_aload_n hx hb dX1_gives_201 rfl (lv_at hl 1 rfl) ?_
      refine lv_bipush (v := 20) hx hb dX1_gives_202 (by decide) ?_
      refine lv_iload_n hx hb dX1_gives_204 rfl (lv_at hl 3 rfl) ?_
      refine lv_iload hx hb dX1_gives_205 (lv_at hl 0 rfl) ?_
      have k_20 := (g_X1_gives_8 l D cI cB cQ z H.size h nw bo nw0 nw1 nw2 nw3 nw4 nw5 nw6 nw7 v1_0 nvi nro nwa nlz nds ndy nga npa 20 w v1_1 nfw nfo nfr nfn nft nfk nfa nfb nha (by omega) (by omega) (by omega) (by omega))
      refine wc_i (WC := [(h, .inr (1, [.ref nw, .ref bo, .int v1_0])), (bo, .inl (cI, 16, .inl v1_1)), (nw, .inr (3, [.int nvi, .int nro, .int nwa, .int nlz, .int nds, .int ndy, .int nga, .int npa, .ref nw0, .ref nw1, .ref nw2, .ref nw3, .ref nw4, .ref nw5, .ref nw6, .ref nw7])), (nw0, .inl (cI, 8, .inl nfw)), (nw1, .inl (cI, 8, .inl nfo)), (nw2, .inl (cI, 8, .inl nfr)), (nw3, .inl (cI, 8, .inl nfn)), (nw4, .inl (cI, 8, .inl nft)), (nw5, .inl (cI, 3, .inl nfk)), (nw6, .inl (cI, 3, .inl nfa)), (nw7, .inl (cI, 3, .inl nfb))]) (WR := []) (va_runV (As := [.int 20, .int w, .int 8]) (rest := []) ⟨hx, hb, hml, hown, hts⟩ k_20 (cwV 3 hts gX1_gives_X1_gives rfl rfl rfl (by decide +kernel) ⟨Nat.le_of_ble_eq_true rfl, Nat.le_of_ble_eq_true rfl⟩) (wpz_V hZ hS hAb hP hK hD hN [9, 10, 0, 1, 2, 3, 4, 5, 6, 7, 8] (by decide) rfl (ci := 1) rfl rfl) rfl rfl hl.1 rfl (lv_room (Nat.le_of_ble_eq_true rfl)) dX1_gives_207 ⟨Nat.le_of_ble_eq_true rfl, Nat.le_of_ble_eq_true rfl⟩) hP hD hS hA [9, 10, 0, 1, 2, 3, 4, 5, 6, 7, 8] [] rfl rfl (by decide) (by decide) (fun r_20 u_20 H locs hw_20 hP hD hS => ?_)
      clear k_20
      obtain ⟨v20_0, v20_1⟩ := u_20
      have hP : va_P D kl [(h, .inr (1, [.ref nw, .ref bo, .int v20_0])), (bo, .inl (cI, 16, .inl v20_1)), (nw, .inr (3, [.int nvi, .int nro, .int nwa, .int nlz, .int nds, .int ndy, .int nga, .int npa, .ref nw0, .ref nw1, .ref nw2, .ref nw3, .ref nw4, .ref nw5, .ref nw6, .ref nw7])), (nw0, .inl (cI, 8, .inl nfw)), (nw1, .inl (cI, 8, .inl nfo)), (nw2, .inl (cI, 8, .inl nfr)), (nw3, .inl (cI, 8, .inl nfn)), (nw4, .inl (cI, 8, .inl nft)), (nw5, .inl (cI, 3, .inl nfk)), (nw6, .inl (cI, 3, .inl nfa)), (nw7, .inl (cI, 3, .inl nfb))] H := hP
      have hD : va_D A [(h, .inr (1, [.ref nw, .ref bo, .int v20_0])), (bo, .inl (cI, 16, .inl v20_1)), (nw, .inr (3, [.int nvi, .int nro, .int nwa, .int nlz, .int nds, .int ndy, .int nga, .int npa, .ref nw0, .ref nw1, .ref nw2, .ref nw3, .ref nw4, .ref nw5, .ref nw6, .ref nw7])), (nw0, .inl (cI, 8, .inl nfw)), (nw1, .inl (cI, 8, .inl nfo)), (nw2, .inl (cI, 8, .inl nfr)), (nw3, .inl (cI, 8, .inl nfn)), (nw4, .inl (cI, 8, .inl nft)), (nw5, .inl (cI, 3, .inl nfk)), (nw6, .inl (cI, 3, .inl nfa)), (nw7, .inl (cI, 3, .inl nfb))] := hD
      have c20_0 := hw_20
      have c20_0 : 0 ≤ v20_0.toInt ∧ v20_0.toInt ≤ 16 := c20_0
      refine lv_aload_n hx hb dX1_gives_210 rfl (lv_at hl 1 rfl) ?_
      refine lv_iload_n hx hb dX1_gives_211 rfl (lv_at hl 3 rfl) ?_
      refine lv_iconst (v := 0) hx hb dX1_gives_212 (by decide) ?_
      refine lv_iload hx hb dX1_gives_213 (lv_at hl 0 rfl) ?_
      have k_21 := (g_X1_asked_8 l D cI cB cQ z H.size h nw bo nw0 nw1 nw2 nw3 nw4 nw5 nw6 nw7 v20_0 nvi nro nwa nlz nds ndy nga npa w 0 v20_1 nfw nfo nfr nfn nft nfk nfa nfb nha (by omega) (by omega) (by omega) (by omega))
      refine wc_i (WC := [(h, .inr (1, [.ref nw, .ref bo, .int v20_0])), (bo, .inl (cI, 16, .inl v20_1)), (nw, .inr (3, [.int nvi, .int nro, .int nwa, .int nlz, .int nds, .int ndy, .int nga, .int npa, .ref nw0, .ref nw1, .ref nw2, .ref nw3, .ref nw4, .ref nw5, .ref nw6, .ref nw7])), (nw0, .inl (cI, 8, .inl nfw)), (nw1, .inl (cI, 8, .inl nfo)), (nw2, .inl (cI, 8, .inl nfr)), (nw3, .inl (cI, 8, .inl nfn)), (nw4, .inl (cI, 8, .inl nft)), (nw5, .inl (cI, 3, .inl nfk)), (nw6, .inl (cI, 3, .inl nfa)), (nw7, .inl (cI, 3, .inl nfb))]) (WR := []) (va_runV (As := [.int w, .int 0, .int 8]) (rest := [.int r_20]) ⟨hx, hb, hml, hown, hts⟩ k_21 (cwV 3 hts gX1_gives_X1_asked rfl rfl rfl (by decide +kernel) ⟨Nat.le_of_ble_eq_true rfl, Nat.le_of_ble_eq_true rfl⟩) (wpz_V hZ hS hAb hP hK hD hN [0, 1, 2, 3, 4, 5, 6, 7, 8, 9, 10] (by decide) rfl (ci := 1) rfl rfl) rfl rfl hl.1 rfl (lv_room (Nat.le_of_ble_eq_true rfl)) dX1_gives_215 ⟨Nat.le_of_ble_eq_true rfl, Nat.le_of_ble_eq_true rfl⟩) hP hD hS hA [0, 1, 2, 3, 4, 5, 6, 7, 8, 9, 10] [] rfl rfl (by decide) (by decide) (fun r_21 u_21 H locs hw_21 hP hD hS => ?_)
      clear k_21
      obtain ⟨v21_0, v21_1⟩ := u_21
      have hP : va_P D kl [(h, .inr (1, [.ref nw, .ref bo, .int v21_0])), (bo, .inl (cI, 16, .inl v21_1)), (nw, .inr (3, [.int nvi, .int nro, .int nwa, .int nlz, .int nds, .int ndy, .int nga, .int npa, .ref nw0, .ref nw1, .ref nw2, .ref nw3, .ref nw4, .ref nw5, .ref nw6, .ref nw7])), (nw0, .inl (cI, 8, .inl nfw)), (nw1, .inl (cI, 8, .inl nfo)), (nw2, .inl (cI, 8, .inl nfr)), (nw3, .inl (cI, 8, .inl nfn)), (nw4, .inl (cI, 8, .inl nft)), (nw5, .inl (cI, 3, .inl nfk)), (nw6, .inl (cI, 3, .inl nfa)), (nw7, .inl (cI, 3, .inl nfb))] H := hP
      have hD : va_D A [(h, .inr (1, [.ref nw, .ref bo, .int v21_0])), (bo, .inl (cI, 16, .inl v21_1)), (nw, .inr (3, [.int nvi, .int nro, .int nwa, .int nlz, .int nds, .int ndy, .int nga, .int npa, .ref nw0, .ref nw1, .ref nw2, .ref nw3, .ref nw4, .ref nw5, .ref nw6, .ref nw7])), (nw0, .inl (cI, 8, .inl nfw)), (nw1, .inl (cI, 8, .inl nfo)), (nw2, .inl (cI, 8, .inl nfr)), (nw3, .inl (cI, 8, .inl nfn)), (nw4, .inl (cI, 8, .inl nft)), (nw5, .inl (cI, 3, .inl nfk)), (nw6, .inl (cI, 3, .inl nfa)), (nw7, .inl (cI, 3, .inl nfb))] := hD
      have c21_0 := hw_21
      have c21_0 : 0 ≤ v21_0.toInt ∧ v21_0.toInt ≤ 16 := c21_0
      refine lv_isub hx hb dX1_gives_218 ?_
      refine lv_topi (fun x_22 ex_22 => ?_)
      clear ex_22
      exact wr_i (v := x_22) hx hb hr hlocks hS (v21_0, v21_1) (by exact show 0 ≤ (v21_0 : Int32).toInt ∧ (v21_0 : Int32).toInt ≤ 16 from by omega) (hP.sub [0, 1, 2, 3, 4, 5, 6, 7, 8, 9, 10] rfl) (hD.sub [0, 1, 2, 3, 4, 5, 6, 7, 8, 9, 10] (by decide) rfl) dX1_gives_219
    · refine lv_tableIn (off := 201) (tgt := 220) hx hb dX1_gives_19 (by omega) (by omega) (by rw [g_3]; rfl) (by decide) ?_
      refine lv_iconst (v := 2) hx hb dX1_gives_220 (by decide) ?_
      refine lv_aload_n hx hb dX1_gives_221 rfl (lv_at hl 1 rfl) ?_
      refine lv_bipush (v := 21) hx hb dX1_gives_222 (by decide) ?_
      refine lv_iload_n hx hb dX1_gives_224 rfl (lv_at hl 3 rfl) ?_
      refine lv_iload hx hb dX1_gives_225 (lv_at hl 0 rfl) ?_
      have k_23 := (g_X1_gives_8 l D cI cB cQ z H.size h nw bo nw0 nw1 nw2 nw3 nw4 nw5 nw6 nw7 v1_0 nvi nro nwa nlz nds ndy nga npa 21 w v1_1 nfw nfo nfr nfn nft nfk nfa nfb nha (by omega) (by omega) (by omega) (by omega))
      refine wc_i (WC := [(h, .inr (1, [.ref nw, .ref bo, .int v1_0])), (bo, .inl (cI, 16, .inl v1_1)), (nw, .inr (3, [.int nvi, .int nro, .int nwa, .int nlz, .int nds, .int ndy, .int nga, .int npa, .ref nw0, .ref nw1, .ref nw2, .ref nw3, .ref nw4, .ref nw5, .ref nw6, .ref nw7])), (nw0, .inl (cI, 8, .inl nfw)), (nw1, .inl (cI, 8, .inl nfo)), (nw2, .inl (cI, 8, .inl nfr)), (nw3, .inl (cI, 8, .inl nfn)), (nw4, .inl (cI, 8, .inl nft)), (nw5, .inl (cI, 3, .inl nfk)), (nw6, .inl (cI, 3, .inl nfa)), (nw7, .inl (cI, 3, .inl nfb))]) (WR := []) (va_runV (As := [.int 21, .int w, .int 8]) (rest := [.int 2]) ⟨hx, hb, hml, hown, hts⟩ k_23 (cwV 3 hts gX1_gives_X1_gives rfl rfl rfl (by decide +kernel) ⟨Nat.le_of_ble_eq_true rfl, Nat.le_of_ble_eq_true rfl⟩) (wpz_V hZ hS hAb hP hK hD hN [9, 10, 0, 1, 2, 3, 4, 5, 6, 7, 8] (by decide) rfl (ci := 1) rfl rfl) rfl rfl hl.1 rfl (lv_room (Nat.le_of_ble_eq_true rfl)) dX1_gives_227 ⟨Nat.le_of_ble_eq_true rfl, Nat.le_of_ble_eq_true rfl⟩) hP hD hS hA [9, 10, 0, 1, 2, 3, 4, 5, 6, 7, 8] [] rfl rfl (by decide) (by decide) (fun r_23 u_23 H locs hw_23 hP hD hS => ?_)
      clear k_23
      obtain ⟨v23_0, v23_1⟩ := u_23
      have hP : va_P D kl [(h, .inr (1, [.ref nw, .ref bo, .int v23_0])), (bo, .inl (cI, 16, .inl v23_1)), (nw, .inr (3, [.int nvi, .int nro, .int nwa, .int nlz, .int nds, .int ndy, .int nga, .int npa, .ref nw0, .ref nw1, .ref nw2, .ref nw3, .ref nw4, .ref nw5, .ref nw6, .ref nw7])), (nw0, .inl (cI, 8, .inl nfw)), (nw1, .inl (cI, 8, .inl nfo)), (nw2, .inl (cI, 8, .inl nfr)), (nw3, .inl (cI, 8, .inl nfn)), (nw4, .inl (cI, 8, .inl nft)), (nw5, .inl (cI, 3, .inl nfk)), (nw6, .inl (cI, 3, .inl nfa)), (nw7, .inl (cI, 3, .inl nfb))] H := hP
      have hD : va_D A [(h, .inr (1, [.ref nw, .ref bo, .int v23_0])), (bo, .inl (cI, 16, .inl v23_1)), (nw, .inr (3, [.int nvi, .int nro, .int nwa, .int nlz, .int nds, .int ndy, .int nga, .int npa, .ref nw0, .ref nw1, .ref nw2, .ref nw3, .ref nw4, .ref nw5, .ref nw6, .ref nw7])), (nw0, .inl (cI, 8, .inl nfw)), (nw1, .inl (cI, 8, .inl nfo)), (nw2, .inl (cI, 8, .inl nfr)), (nw3, .inl (cI, 8, .inl nfn)), (nw4, .inl (cI, 8, .inl nft)), (nw5, .inl (cI, 3, .inl nfk)), (nw6, .inl (cI, 3, .inl nfa)), (nw7, .inl (cI, 3, .inl nfb))] := hD
      have c23_0 := hw_23
      have c23_0 : 0 ≤ v23_0.toInt ∧ v23_0.toInt ≤ 16 := c23_0
      refine lv_imul hx hb dX1_gives_230 ?_
      refine lv_topi (fun x_24 ex_24 => ?_)
      clear ex_24
      exact wr_i (v := x_24) hx hb hr hlocks hS (v23_0, v23_1) (by exact show 0 ≤ (v23_0 : Int32).toInt ∧ (v23_0 : Int32).toInt ≤ 16 from by omega) (hP.sub [0, 1, 2, 3, 4, 5, 6, 7, 8, 9, 10] rfl) (hD.sub [0, 1, 2, 3, 4, 5, 6, 7, 8, 9, 10] (by decide) rfl) dX1_gives_231
set_option maxHeartbeats 4000000 in
set_option maxRecDepth 100000 in
theorem g_X1_asked_7 (l : Launch) (D : va_G) (cI cB cQ : ClassId) (z : ZT) (sz : Nat) (h : Nat) (nw : Nat) (bo : Nat) (nw0 : Nat) (nw1 : Nat) (nw2 : Nat) (nw3 : Nat) (nw4 : Nat) (nw5 : Nat) (nw6 : Nat) (nw7 : Nat) (tc : Int32) (nvi : Int32) (nro : Int32) (nwa : Int32) (nlz : Int32) (nds : Int32) (ndy : Int32) (nga : Int32) (npa : Int32) (w : Int32) (k : Int32) (bf : Nat → Int32) (nfw : Nat → Int32) (nfo : Nat → Int32) (nfr : Nat → Int32) (nfn : Nat → Int32) (nft : Nat → Int32) (nfk : Nat → Int32) (nfa : Nat → Int32) (nfb : Nat → Int32) (nha : ∀ j, j < 3 → 0 ≤ (nfa j).toInt ∧ (nfa j).toInt ≤ 7) (h_tc : 0 ≤ tc.toInt ∧ tc.toInt ≤ 16) (h_nvi : 0 ≤ nvi.toInt ∧ nvi.toInt ≤ 8) (h_nwa : 0 ≤ nwa.toInt ∧ nwa.toInt ≤ 3) (h_w : 0 ≤ w.toInt ∧ w.toInt ≤ 2) : miz l yX1_asked wsX1_asked ({ frames := 7, cells := 0, slots := 0, locals := 160 }) z D cI cB cQ [.ref h, .int w, .int k, .int 7] sz [(h, .inr (1, [.ref nw, .ref bo, .int tc])), (bo, .inl (cI, 16, .inl bf)), (nw, .inr (3, [.int nvi, .int nro, .int nwa, .int nlz, .int nds, .int ndy, .int nga, .int npa, .ref nw0, .ref nw1, .ref nw2, .ref nw3, .ref nw4, .ref nw5, .ref nw6, .ref nw7])), (nw0, .inl (cI, 8, .inl nfw)), (nw1, .inl (cI, 8, .inl nfo)), (nw2, .inl (cI, 8, .inl nfr)), (nw3, .inl (cI, 8, .inl nfn)), (nw4, .inl (cI, 8, .inl nft)), (nw5, .inl (cI, 3, .inl nfk)), (nw6, .inl (cI, 3, .inl nfa)), (nw7, .inl (cI, 3, .inl nfb))] (fun (r : Int32) (u : Int32 × (Nat → Int32)) => (0 ≤ u.1.toInt ∧ u.1.toInt ≤ 16)) (fun u => [(h, .inr (1, [.ref nw, .ref bo, .int u.1])), (bo, .inl (cI, 16, .inl u.2)), (nw, .inr (3, [.int nvi, .int nro, .int nwa, .int nlz, .int nds, .int ndy, .int nga, .int npa, .ref nw0, .ref nw1, .ref nw2, .ref nw3, .ref nw4, .ref nw5, .ref nw6, .ref nw7])), (nw0, .inl (cI, 8, .inl nfw)), (nw1, .inl (cI, 8, .inl nfo)), (nw2, .inl (cI, 8, .inl nfr)), (nw3, .inl (cI, 8, .inl nfn)), (nw4, .inl (cI, 8, .inl nft)), (nw5, .inl (cI, 3, .inl nfk)), (nw6, .inl (cI, 3, .inl nfa)), (nw7, .inl (cI, 3, .inl nfb))]) 0 0 := by
  refine wm_z (cc := cX1_asked) (maxL := 4) (ret := (some .int)) (by decide) rfl (Nat.le_of_ble_eq_true rfl) ?_
  intro p e s m below meth c A ls hZ hAb hx hb hr hml hown hts hlocks hin hP hK hD hN hA hl hS
  have hown : s.vm.findClass RX1 = some m.cls := hown
  have hl : lv_has ls 4 [(0, .ref h), (1, .int w), (2, .int k), (3, .int 7)] := hl
  change W p l e ({ frames := 7, cells := 0, slots := 0, locals := 160 }) s m ([.ref h, .int w, .int k, .int 7] : List Value).toArray below meth c s.heap [] 0 0 (MQ below (va_Qi (fun (r : Int32) (u : Int32 × (Nat → Int32)) => (0 ≤ u.1.toInt ∧ u.1.toInt ≤ 16)) (fun u t => wb D A ((fun u => [(h, .inr (1, [.ref nw, .ref bo, .int u.1])), (bo, .inl (cI, 16, .inl u.2)), (nw, .inr (3, [.int nvi, .int nro, .int nwa, .int nlz, .int nds, .int ndy, .int nga, .int npa, .ref nw0, .ref nw1, .ref nw2, .ref nw3, .ref nw4, .ref nw5, .ref nw6, .ref nw7])), (nw0, .inl (cI, 8, .inl nfw)), (nw1, .inl (cI, 8, .inl nfo)), (nw2, .inl (cI, 8, .inl nfr)), (nw3, .inl (cI, 8, .inl nfn)), (nw4, .inl (cI, 8, .inl nft)), (nw5, .inl (cI, 3, .inl nfk)), (nw6, .inl (cI, 3, .inl nfa)), (nw7, .inl (cI, 3, .inl nfb))]) u) t) A) ([.ref h, .int w, .int k, .int 7] : List Value).toArray s 0 0 A) (F0 m 0 ls [])
  refine lv_aload_n hx hb dX1_asked_0 rfl (lv_at hl 0 rfl) ?_
  refine lv_aload_n hx hb dX1_asked_1 rfl (lv_at hl 0 rfl) ?_
  refine va_get (D := D) (ci := 1) (v := .ref nw) (C := RX1) (T := TX1) (N := 3) hx hb hts (fun _ h => List.mem_cons_of_mem _ (List.mem_append_left _ (List.mem_append_right _ h))) hown hK hP 0 rfl rfl 0 (by decide) (hts (.fieldLink RX1 19 "WinterWalk$Asks" "land" "LWinterWalk$Land;") (List.mem_of_getElem? (i := 1) rfl)) (fun _ h9 => h9) rfl dX1_asked_2 ?_
  refine va_get (D := D) (ci := 3) (v := .ref nw5) (C := RX4) (T := TX4) (N := 16) hx hb hts (fun _ h => List.mem_cons_of_mem _ (List.mem_append_right _ h)) hown hK hP 2 rfl rfl 13 (by decide) (hts (.fieldLink RX1 27 "WinterWalk$Land" "kinds" "[I") (List.mem_of_getElem? (i := 2) rfl)) (fun _ h9 => h9) rfl dX1_asked_5 ?_
  refine lv_iload_n hx hb dX1_asked_8 rfl (lv_at hl 1 rfl) ?_
  refine va_iald hx hb hK hP 8 0 rfl rfl (zi_in (by omega) (by omega)) dX1_asked_9 ?_
  refine lv_topi (fun x_1 ex_1 => ?_)
  clear ex_1
  refine lv_iload_n hx hb dX1_asked_10 rfl (lv_at hl 2 rfl) ?_
  have k_2 := (g_X1_bodyFor l D cI cB cQ z s.heap.size x_1 k)
  refine wc_i (WC := []) (WR := [(h, .inr (1, [.ref nw, .ref bo, .int tc])), (bo, .inl (cI, 16, .inl bf)), (nw, .inr (3, [.int nvi, .int nro, .int nwa, .int nlz, .int nds, .int ndy, .int nga, .int npa, .ref nw0, .ref nw1, .ref nw2, .ref nw3, .ref nw4, .ref nw5, .ref nw6, .ref nw7])), (nw0, .inl (cI, 8, .inl nfw)), (nw1, .inl (cI, 8, .inl nfo)), (nw2, .inl (cI, 8, .inl nfr)), (nw3, .inl (cI, 8, .inl nfn)), (nw4, .inl (cI, 8, .inl nft)), (nw5, .inl (cI, 3, .inl nfk)), (nw6, .inl (cI, 3, .inl nfa)), (nw7, .inl (cI, 3, .inl nfb))]) (va_runS (As := [.int x_1, .int k]) (rest := [.ref h]) ⟨hx, hb, hml, hown, hts⟩ k_2 (va_cwS 2 hts gX1_asked_X1_bodyFor rfl rfl rfl (by decide +kernel) ⟨Nat.le_of_ble_eq_true rfl, Nat.le_of_ble_eq_true rfl⟩) (wpz_S hZ hS hAb hP hK hD hN [] (by decide) rfl) rfl rfl hl.1 rfl (lv_room (Nat.le_of_ble_eq_true rfl)) dX1_asked_11 ⟨Nat.le_of_ble_eq_true rfl, Nat.le_of_ble_eq_true rfl⟩) hP hD hS hA [] [0, 1, 2, 3, 4, 5, 6, 7, 8, 9, 10] rfl rfl (by decide) (by decide) (fun r_2 u_2 H locs hw_2 hP hD hS => ?_)
  clear k_2
  have hP : va_P D kl [(h, .inr (1, [.ref nw, .ref bo, .int tc])), (bo, .inl (cI, 16, .inl bf)), (nw, .inr (3, [.int nvi, .int nro, .int nwa, .int nlz, .int nds, .int ndy, .int nga, .int npa, .ref nw0, .ref nw1, .ref nw2, .ref nw3, .ref nw4, .ref nw5, .ref nw6, .ref nw7])), (nw0, .inl (cI, 8, .inl nfw)), (nw1, .inl (cI, 8, .inl nfo)), (nw2, .inl (cI, 8, .inl nfr)), (nw3, .inl (cI, 8, .inl nfn)), (nw4, .inl (cI, 8, .inl nft)), (nw5, .inl (cI, 3, .inl nfk)), (nw6, .inl (cI, 3, .inl nfa)), (nw7, .inl (cI, 3, .inl nfb))] H := hP
  have hD : va_D A [(h, .inr (1, [.ref nw, .ref bo, .int tc])), (bo, .inl (cI, 16, .inl bf)), (nw, .inr (3, [.int nvi, .int nro, .int nwa, .int nlz, .int nds, .int ndy, .int nga, .int npa, .ref nw0, .ref nw1, .ref nw2, .ref nw3, .ref nw4, .ref nw5, .ref nw6, .ref nw7])), (nw0, .inl (cI, 8, .inl nfw)), (nw1, .inl (cI, 8, .inl nfo)), (nw2, .inl (cI, 8, .inl nfr)), (nw3, .inl (cI, 8, .inl nfn)), (nw4, .inl (cI, 8, .inl nft)), (nw5, .inl (cI, 3, .inl nfk)), (nw6, .inl (cI, 3, .inl nfa)), (nw7, .inl (cI, 3, .inl nfb))] := hD
  clear hw_2
  refine lv_iload_n hx hb dX1_asked_14 rfl (lv_at hl 1 rfl) ?_
  refine lv_iload_n hx hb dX1_asked_15 rfl (lv_at hl 3 rfl) ?_
  have k_3 := (g_X1_gives_7 l D cI cB cQ z H.size h nw bo nw0 nw1 nw2 nw3 nw4 nw5 nw6 nw7 tc nvi nro nwa nlz nds ndy nga npa r_2 w bf nfw nfo nfr nfn nft nfk nfa nfb nha (by omega) (by omega) (by omega) (by omega))
  refine wc_i (WC := [(h, .inr (1, [.ref nw, .ref bo, .int tc])), (bo, .inl (cI, 16, .inl bf)), (nw, .inr (3, [.int nvi, .int nro, .int nwa, .int nlz, .int nds, .int ndy, .int nga, .int npa, .ref nw0, .ref nw1, .ref nw2, .ref nw3, .ref nw4, .ref nw5, .ref nw6, .ref nw7])), (nw0, .inl (cI, 8, .inl nfw)), (nw1, .inl (cI, 8, .inl nfo)), (nw2, .inl (cI, 8, .inl nfr)), (nw3, .inl (cI, 8, .inl nfn)), (nw4, .inl (cI, 8, .inl nft)), (nw5, .inl (cI, 3, .inl nfk)), (nw6, .inl (cI, 3, .inl nfa)), (nw7, .inl (cI, 3, .inl nfb))]) (WR := []) (va_runV (As := [.int r_2, .int w, .int 7]) (rest := []) ⟨hx, hb, hml, hown, hts⟩ k_3 (cwV 3 hts gX1_asked_X1_gives rfl rfl rfl (by decide +kernel) ⟨Nat.le_of_ble_eq_true rfl, Nat.le_of_ble_eq_true rfl⟩) (wpz_V hZ hS hAb hP hK hD hN [0, 1, 2, 3, 4, 5, 6, 7, 8, 9, 10] (by decide) rfl (ci := 1) rfl rfl) rfl rfl hl.1 rfl (lv_room (Nat.le_of_ble_eq_true rfl)) dX1_asked_16 ⟨Nat.le_of_ble_eq_true rfl, Nat.le_of_ble_eq_true rfl⟩) hP hD hS hA [0, 1, 2, 3, 4, 5, 6, 7, 8, 9, 10] [] rfl rfl (by decide) (by decide) (fun r_3 u_3 H locs hw_3 hP hD hS => ?_)
  clear k_3
  obtain ⟨v3_0, v3_1⟩ := u_3
  have hP : va_P D kl [(h, .inr (1, [.ref nw, .ref bo, .int v3_0])), (bo, .inl (cI, 16, .inl v3_1)), (nw, .inr (3, [.int nvi, .int nro, .int nwa, .int nlz, .int nds, .int ndy, .int nga, .int npa, .ref nw0, .ref nw1, .ref nw2, .ref nw3, .ref nw4, .ref nw5, .ref nw6, .ref nw7])), (nw0, .inl (cI, 8, .inl nfw)), (nw1, .inl (cI, 8, .inl nfo)), (nw2, .inl (cI, 8, .inl nfr)), (nw3, .inl (cI, 8, .inl nfn)), (nw4, .inl (cI, 8, .inl nft)), (nw5, .inl (cI, 3, .inl nfk)), (nw6, .inl (cI, 3, .inl nfa)), (nw7, .inl (cI, 3, .inl nfb))] H := hP
  have hD : va_D A [(h, .inr (1, [.ref nw, .ref bo, .int v3_0])), (bo, .inl (cI, 16, .inl v3_1)), (nw, .inr (3, [.int nvi, .int nro, .int nwa, .int nlz, .int nds, .int ndy, .int nga, .int npa, .ref nw0, .ref nw1, .ref nw2, .ref nw3, .ref nw4, .ref nw5, .ref nw6, .ref nw7])), (nw0, .inl (cI, 8, .inl nfw)), (nw1, .inl (cI, 8, .inl nfo)), (nw2, .inl (cI, 8, .inl nfr)), (nw3, .inl (cI, 8, .inl nfn)), (nw4, .inl (cI, 8, .inl nft)), (nw5, .inl (cI, 3, .inl nfk)), (nw6, .inl (cI, 3, .inl nfa)), (nw7, .inl (cI, 3, .inl nfb))] := hD
  have c3_0 := hw_3
  have c3_0 : 0 ≤ v3_0.toInt ∧ v3_0.toInt ≤ 16 := c3_0
  exact wr_i (v := r_3) hx hb hr hlocks hS (v3_0, v3_1) (by exact show 0 ≤ (v3_0 : Int32).toInt ∧ (v3_0 : Int32).toInt ≤ 16 from by omega) (hP.sub [0, 1, 2, 3, 4, 5, 6, 7, 8, 9, 10] rfl) (hD.sub [0, 1, 2, 3, 4, 5, 6, 7, 8, 9, 10] (by decide) rfl) dX1_asked_19
set_option maxHeartbeats 4000000 in
set_option maxRecDepth 100000 in
theorem g_X1_gives_6 (l : Launch) (D : va_G) (cI cB cQ : ClassId) (z : ZT) (sz : Nat) (h : Nat) (nw : Nat) (bo : Nat) (nw0 : Nat) (nw1 : Nat) (nw2 : Nat) (nw3 : Nat) (nw4 : Nat) (nw5 : Nat) (nw6 : Nat) (nw7 : Nat) (tc : Int32) (nvi : Int32) (nro : Int32) (nwa : Int32) (nlz : Int32) (nds : Int32) (ndy : Int32) (nga : Int32) (npa : Int32) (k : Int32) (w : Int32) (bf : Nat → Int32) (nfw : Nat → Int32) (nfo : Nat → Int32) (nfr : Nat → Int32) (nfn : Nat → Int32) (nft : Nat → Int32) (nfk : Nat → Int32) (nfa : Nat → Int32) (nfb : Nat → Int32) (nha : ∀ j, j < 3 → 0 ≤ (nfa j).toInt ∧ (nfa j).toInt ≤ 7) (h_tc : 0 ≤ tc.toInt ∧ tc.toInt ≤ 16) (h_nvi : 0 ≤ nvi.toInt ∧ nvi.toInt ≤ 8) (h_nwa : 0 ≤ nwa.toInt ∧ nwa.toInt ≤ 3) (h_w : 0 ≤ w.toInt ∧ w.toInt ≤ 2) : miz l yX1_gives wsX1_gives ({ frames := 8, cells := 0, slots := 0, locals := 183 }) z D cI cB cQ [.ref h, .int k, .int w, .int 6] sz [(h, .inr (1, [.ref nw, .ref bo, .int tc])), (bo, .inl (cI, 16, .inl bf)), (nw, .inr (3, [.int nvi, .int nro, .int nwa, .int nlz, .int nds, .int ndy, .int nga, .int npa, .ref nw0, .ref nw1, .ref nw2, .ref nw3, .ref nw4, .ref nw5, .ref nw6, .ref nw7])), (nw0, .inl (cI, 8, .inl nfw)), (nw1, .inl (cI, 8, .inl nfo)), (nw2, .inl (cI, 8, .inl nfr)), (nw3, .inl (cI, 8, .inl nfn)), (nw4, .inl (cI, 8, .inl nft)), (nw5, .inl (cI, 3, .inl nfk)), (nw6, .inl (cI, 3, .inl nfa)), (nw7, .inl (cI, 3, .inl nfb))] (fun (r : Int32) (u : Int32 × (Nat → Int32)) => (0 ≤ u.1.toInt ∧ u.1.toInt ≤ 16)) (fun u => [(h, .inr (1, [.ref nw, .ref bo, .int u.1])), (bo, .inl (cI, 16, .inl u.2)), (nw, .inr (3, [.int nvi, .int nro, .int nwa, .int nlz, .int nds, .int ndy, .int nga, .int npa, .ref nw0, .ref nw1, .ref nw2, .ref nw3, .ref nw4, .ref nw5, .ref nw6, .ref nw7])), (nw0, .inl (cI, 8, .inl nfw)), (nw1, .inl (cI, 8, .inl nfo)), (nw2, .inl (cI, 8, .inl nfr)), (nw3, .inl (cI, 8, .inl nfn)), (nw4, .inl (cI, 8, .inl nft)), (nw5, .inl (cI, 3, .inl nfk)), (nw6, .inl (cI, 3, .inl nfa)), (nw7, .inl (cI, 3, .inl nfb))]) 0 0 := by
  refine wm_z (cc := cX1_gives) (maxL := 5) (ret := (some .int)) (by decide) rfl (Nat.le_of_ble_eq_true rfl) ?_
  intro p e s m below meth c A ls hZ hAb hx hb hr hml hown hts hlocks hin hP hK hD hN hA hl hS
  have hown : s.vm.findClass RX1 = some m.cls := hown
  have hl : lv_has ls 5 [(0, .ref h), (1, .int k), (2, .int w), (3, .int 6)] := hl
  change W p l e ({ frames := 8, cells := 0, slots := 0, locals := 183 }) s m ([.ref h, .int k, .int w, .int 6] : List Value).toArray below meth c s.heap [] 0 0 (MQ below (va_Qi (fun (r : Int32) (u : Int32 × (Nat → Int32)) => (0 ≤ u.1.toInt ∧ u.1.toInt ≤ 16)) (fun u t => wb D A ((fun u => [(h, .inr (1, [.ref nw, .ref bo, .int u.1])), (bo, .inl (cI, 16, .inl u.2)), (nw, .inr (3, [.int nvi, .int nro, .int nwa, .int nlz, .int nds, .int ndy, .int nga, .int npa, .ref nw0, .ref nw1, .ref nw2, .ref nw3, .ref nw4, .ref nw5, .ref nw6, .ref nw7])), (nw0, .inl (cI, 8, .inl nfw)), (nw1, .inl (cI, 8, .inl nfo)), (nw2, .inl (cI, 8, .inl nfr)), (nw3, .inl (cI, 8, .inl nfn)), (nw4, .inl (cI, 8, .inl nft)), (nw5, .inl (cI, 3, .inl nfk)), (nw6, .inl (cI, 3, .inl nfa)), (nw7, .inl (cI, 3, .inl nfb))]) u) t) A) ([.ref h, .int k, .int w, .int 6] : List Value).toArray s 0 0 A) (F0 m 0 ls [])
  refine lv_iload_n hx hb dX1_gives_0 rfl (lv_at hl 3 rfl) ?_
  refine lv_bipush (v := 8) hx hb dX1_gives_1 (by decide) ?_
  refine lv_icmp_le (tgt := 8) hx hb dX1_gives_3 (by decide) (fun _ => ?_) (fun c9 => absurd (by decide) c9)
  refine lv_aload_n hx hb dX1_gives_8 rfl (lv_at hl 0 rfl) ?_
  refine lv_iload_n hx hb dX1_gives_9 rfl (lv_at hl 1 rfl) ?_
  have k_1 := (g_X1_leaveTrace l D cI cB cQ s.heap.size h nw bo tc k bf (by omega))
  refine wc_v (WC := [(h, .inr (1, [.ref nw, .ref bo, .int tc])), (bo, .inl (cI, 16, .inl bf))]) (WR := [(nw, .inr (3, [.int nvi, .int nro, .int nwa, .int nlz, .int nds, .int ndy, .int nga, .int npa, .ref nw0, .ref nw1, .ref nw2, .ref nw3, .ref nw4, .ref nw5, .ref nw6, .ref nw7])), (nw0, .inl (cI, 8, .inl nfw)), (nw1, .inl (cI, 8, .inl nfo)), (nw2, .inl (cI, 8, .inl nfr)), (nw3, .inl (cI, 8, .inl nfn)), (nw4, .inl (cI, 8, .inl nft)), (nw5, .inl (cI, 3, .inl nfk)), (nw6, .inl (cI, 3, .inl nfa)), (nw7, .inl (cI, 3, .inl nfb))]) (va_runV (As := [.int k]) (rest := []) ⟨hx, hb, hml, hown, hts⟩ k_1 (cwV 1 hts gX1_gives_X1_leaveTrace rfl rfl rfl (by decide +kernel) ⟨Nat.le_of_ble_eq_true rfl, Nat.le_of_ble_eq_true rfl⟩) (wp_V hP hK hD hN [0, 1] (by decide) rfl (ci := 1) rfl rfl) rfl rfl hl.1 rfl (lv_room (Nat.le_of_ble_eq_true rfl)) dX1_gives_10 ⟨Nat.le_of_ble_eq_true rfl, Nat.le_of_ble_eq_true rfl⟩) hP hD hS hA [0, 1] [2, 3, 4, 5, 6, 7, 8, 9, 10] rfl rfl (by decide) (by decide) (fun u_1 H locs hw_1 hP hD hS => ?_)
  clear k_1
  obtain ⟨v1_0, v1_1⟩ := u_1
  have hP : va_P D kl [(nw, .inr (3, [.int nvi, .int nro, .int nwa, .int nlz, .int nds, .int ndy, .int nga, .int npa, .ref nw0, .ref nw1, .ref nw2, .ref nw3, .ref nw4, .ref nw5, .ref nw6, .ref nw7])), (nw0, .inl (cI, 8, .inl nfw)), (nw1, .inl (cI, 8, .inl nfo)), (nw2, .inl (cI, 8, .inl nfr)), (nw3, .inl (cI, 8, .inl nfn)), (nw4, .inl (cI, 8, .inl nft)), (nw5, .inl (cI, 3, .inl nfk)), (nw6, .inl (cI, 3, .inl nfa)), (nw7, .inl (cI, 3, .inl nfb)), (h, .inr (1, [.ref nw, .ref bo, .int v1_0])), (bo, .inl (cI, 16, .inl v1_1))] H := hP
  have hD : va_D A [(nw, .inr (3, [.int nvi, .int nro, .int nwa, .int nlz, .int nds, .int ndy, .int nga, .int npa, .ref nw0, .ref nw1, .ref nw2, .ref nw3, .ref nw4, .ref nw5, .ref nw6, .ref nw7])), (nw0, .inl (cI, 8, .inl nfw)), (nw1, .inl (cI, 8, .inl nfo)), (nw2, .inl (cI, 8, .inl nfr)), (nw3, .inl (cI, 8, .inl nfn)), (nw4, .inl (cI, 8, .inl nft)), (nw5, .inl (cI, 3, .inl nfk)), (nw6, .inl (cI, 3, .inl nfa)), (nw7, .inl (cI, 3, .inl nfb)), (h, .inr (1, [.ref nw, .ref bo, .int v1_0])), (bo, .inl (cI, 16, .inl v1_1))] := hD
  have c1_0 := hw_1
  have c1_0 : 0 ≤ v1_0.toInt ∧ v1_0.toInt ≤ 16 := c1_0
  refine lv_iload_n hx hb dX1_gives_13 rfl (lv_at hl 3 rfl) ?_
  refine lv_iconst (v := 1) hx hb dX1_gives_14 (by decide) ?_
  refine lv_iadd hx hb dX1_gives_15 ?_
  refine lv_topi (fun x_2 ex_2 => ?_)
  obtain rfl : x_2 = 7 := ex_2.trans (by decide)
  refine lv_istore (lv' := [(4, .int 7), (0, .ref h), (1, .int k), (2, .int w), (3, .int 6)]) hx hb dX1_gives_16 hl (by decide) rfl (fun ls hl => ?_)
  refine lv_iload_n hx hb dX1_gives_18 rfl (lv_at hl 2 rfl) ?_
  by_cases f_3 : k.toInt < 10 ∨ 24 < k.toInt
  · refine lv_tableOut (tgt := 232) hx hb dX1_gives_19 f_3 (by decide) ?_
    refine lv_iconst (v := 0) hx hb dX1_gives_232 (by decide) ?_
    exact wr_i (v := 0) hx hb hr hlocks hS (v1_0, v1_1) (by exact show 0 ≤ (v1_0 : Int32).toInt ∧ (v1_0 : Int32).toInt ≤ 16 from by omega) (hP.sub [9, 10, 0, 1, 2, 3, 4, 5, 6, 7, 8] rfl) (hD.sub [9, 10, 0, 1, 2, 3, 4, 5, 6, 7, 8] (by decide) rfl) dX1_gives_233
  · rcases (show k.toInt = 10 ∨ k.toInt = 11 ∨ k.toInt = 12 ∨ k.toInt = 13 ∨ k.toInt = 14 ∨ k.toInt = 15 ∨ k.toInt = 16 ∨ k.toInt = 17 ∨ k.toInt = 18 ∨ k.toInt = 19 ∨ k.toInt = 20 ∨ k.toInt = 21 ∨ k.toInt = 22 ∨ k.toInt = 23 ∨ k.toInt = 24 by omega) with g_3 | g_3 | g_3 | g_3 | g_3 | g_3 | g_3 | g_3 | g_3 | g_3 | g_3 | g_3 | g_3 | g_3 | g_3
    · refine lv_tableIn (off := 73) (tgt := 92) hx hb dX1_gives_19 (by omega) (by omega) (by rw [g_3]; rfl) (by decide) ?_
      refine lv_aload_n hx hb dX1_gives_92 rfl (lv_at hl 1 rfl) ?_
      refine va_get (D := D) (ci := 1) (v := .ref nw) (C := RX1) (T := TX1) (N := 3) hx hb hts (fun _ h => List.mem_cons_of_mem _ (List.mem_append_left _ (List.mem_append_right _ h))) hown hK hP 9 rfl rfl 0 (by decide) (hts (.fieldLink RX1 19 "WinterWalk$Asks" "land" "LWinterWalk$Land;") (List.mem_of_getElem? (i := 1) rfl)) (fun _ h9 => h9) rfl dX1_gives_93 ?_
      refine va_get (D := D) (ci := 3) (v := .ref nw6) (C := RX4) (T := TX4) (N := 16) hx hb hts (fun _ h => List.mem_cons_of_mem _ (List.mem_append_right _ h)) hown hK hP 0 rfl rfl 14 (by decide) (hts (.fieldLink RX1 59 "WinterWalk$Land" "at" "[I") (List.mem_of_getElem? (i := 2) rfl)) (fun _ h9 => h9) rfl dX1_gives_96 ?_
      refine lv_iload_n hx hb dX1_gives_99 rfl (lv_at hl 3 rfl) ?_
      refine va_iald hx hb hK hP 7 0 rfl rfl (zi_in (by omega) (by omega)) dX1_gives_100 ?_
      refine lv_topi (fun x_4 ex_4 => ?_)
      have f_4 : 0 ≤ x_4.toInt ∧ x_4.toInt ≤ 7 := by rw [ex_4]; exact nha _ (zi_cl (by omega) (by omega))
      clear ex_4
      exact wr_i (v := x_4) hx hb hr hlocks hS (v1_0, v1_1) (by exact show 0 ≤ (v1_0 : Int32).toInt ∧ (v1_0 : Int32).toInt ≤ 16 from by omega) (hP.sub [9, 10, 0, 1, 2, 3, 4, 5, 6, 7, 8] rfl) (hD.sub [9, 10, 0, 1, 2, 3, 4, 5, 6, 7, 8] (by decide) rfl) dX1_gives_101
    · refine lv_tableIn (off := 83) (tgt := 102) hx hb dX1_gives_19 (by omega) (by omega) (by rw [g_3]; rfl) (by decide) ?_
      refine lv_aload_n hx hb dX1_gives_102 rfl (lv_at hl 1 rfl) ?_
      refine lv_bipush (v := 10) hx hb dX1_gives_103 (by decide) ?_
      refine lv_iload_n hx hb dX1_gives_105 rfl (lv_at hl 3 rfl) ?_
      refine lv_iload hx hb dX1_gives_106 (lv_at hl 0 rfl) ?_
      have k_5 := (g_X1_gives_7 l D cI cB cQ z H.size h nw bo nw0 nw1 nw2 nw3 nw4 nw5 nw6 nw7 v1_0 nvi nro nwa nlz nds ndy nga npa 10 w v1_1 nfw nfo nfr nfn nft nfk nfa nfb nha (by omega) (by omega) (by omega) (by omega))
      refine wc_i (WC := [(h, .inr (1, [.ref nw, .ref bo, .int v1_0])), (bo, .inl (cI, 16, .inl v1_1)), (nw, .inr (3, [.int nvi, .int nro, .int nwa, .int nlz, .int nds, .int ndy, .int nga, .int npa, .ref nw0, .ref nw1, .ref nw2, .ref nw3, .ref nw4, .ref nw5, .ref nw6, .ref nw7])), (nw0, .inl (cI, 8, .inl nfw)), (nw1, .inl (cI, 8, .inl nfo)), (nw2, .inl (cI, 8, .inl nfr)), (nw3, .inl (cI, 8, .inl nfn)), (nw4, .inl (cI, 8, .inl nft)), (nw5, .inl (cI, 3, .inl nfk)), (nw6, .inl (cI, 3, .inl nfa)), (nw7, .inl (cI, 3, .inl nfb))]) (WR := []) (va_runV (As := [.int 10, .int w, .int 7]) (rest := []) ⟨hx, hb, hml, hown, hts⟩ k_5 (cwV 3 hts gX1_gives_X1_gives rfl rfl rfl (by decide +kernel) ⟨Nat.le_of_ble_eq_true rfl, Nat.le_of_ble_eq_true rfl⟩) (wpz_V hZ hS hAb hP hK hD hN [9, 10, 0, 1, 2, 3, 4, 5, 6, 7, 8] (by decide) rfl (ci := 1) rfl rfl) rfl rfl hl.1 rfl (lv_room (Nat.le_of_ble_eq_true rfl)) dX1_gives_108 ⟨Nat.le_of_ble_eq_true rfl, Nat.le_of_ble_eq_true rfl⟩) hP hD hS hA [9, 10, 0, 1, 2, 3, 4, 5, 6, 7, 8] [] rfl rfl (by decide) (by decide) (fun r_5 u_5 H locs hw_5 hP hD hS => ?_)
      clear k_5
      obtain ⟨v5_0, v5_1⟩ := u_5
      have hP : va_P D kl [(h, .inr (1, [.ref nw, .ref bo, .int v5_0])), (bo, .inl (cI, 16, .inl v5_1)), (nw, .inr (3, [.int nvi, .int nro, .int nwa, .int nlz, .int nds, .int ndy, .int nga, .int npa, .ref nw0, .ref nw1, .ref nw2, .ref nw3, .ref nw4, .ref nw5, .ref nw6, .ref nw7])), (nw0, .inl (cI, 8, .inl nfw)), (nw1, .inl (cI, 8, .inl nfo)), (nw2, .inl (cI, 8, .inl nfr)), (nw3, .inl (cI, 8, .inl nfn)), (nw4, .inl (cI, 8, .inl nft)), (nw5, .inl (cI, 3, .inl nfk)), (nw6, .inl (cI, 3, .inl nfa)), (nw7, .inl (cI, 3, .inl nfb))] H := hP
      have hD : va_D A [(h, .inr (1, [.ref nw, .ref bo, .int v5_0])), (bo, .inl (cI, 16, .inl v5_1)), (nw, .inr (3, [.int nvi, .int nro, .int nwa, .int nlz, .int nds, .int ndy, .int nga, .int npa, .ref nw0, .ref nw1, .ref nw2, .ref nw3, .ref nw4, .ref nw5, .ref nw6, .ref nw7])), (nw0, .inl (cI, 8, .inl nfw)), (nw1, .inl (cI, 8, .inl nfo)), (nw2, .inl (cI, 8, .inl nfr)), (nw3, .inl (cI, 8, .inl nfn)), (nw4, .inl (cI, 8, .inl nft)), (nw5, .inl (cI, 3, .inl nfk)), (nw6, .inl (cI, 3, .inl nfa)), (nw7, .inl (cI, 3, .inl nfb))] := hD
      have c5_0 := hw_5
      have c5_0 : 0 ≤ v5_0.toInt ∧ v5_0.toInt ≤ 16 := c5_0
      refine lv_aload_n hx hb dX1_gives_111 rfl (lv_at hl 1 rfl) ?_
      refine lv_iload_n hx hb dX1_gives_112 rfl (lv_at hl 3 rfl) ?_
      refine lv_iconst (v := 1) hx hb dX1_gives_113 (by decide) ?_
      refine lv_iload hx hb dX1_gives_114 (lv_at hl 0 rfl) ?_
      have k_6 := (g_X1_asked_7 l D cI cB cQ z H.size h nw bo nw0 nw1 nw2 nw3 nw4 nw5 nw6 nw7 v5_0 nvi nro nwa nlz nds ndy nga npa w 1 v5_1 nfw nfo nfr nfn nft nfk nfa nfb nha (by omega) (by omega) (by omega) (by omega))
      refine wc_i (WC := [(h, .inr (1, [.ref nw, .ref bo, .int v5_0])), (bo, .inl (cI, 16, .inl v5_1)), (nw, .inr (3, [.int nvi, .int nro, .int nwa, .int nlz, .int nds, .int ndy, .int nga, .int npa, .ref nw0, .ref nw1, .ref nw2, .ref nw3, .ref nw4, .ref nw5, .ref nw6, .ref nw7])), (nw0, .inl (cI, 8, .inl nfw)), (nw1, .inl (cI, 8, .inl nfo)), (nw2, .inl (cI, 8, .inl nfr)), (nw3, .inl (cI, 8, .inl nfn)), (nw4, .inl (cI, 8, .inl nft)), (nw5, .inl (cI, 3, .inl nfk)), (nw6, .inl (cI, 3, .inl nfa)), (nw7, .inl (cI, 3, .inl nfb))]) (WR := []) (va_runV (As := [.int w, .int 1, .int 7]) (rest := [.int r_5]) ⟨hx, hb, hml, hown, hts⟩ k_6 (cwV 3 hts gX1_gives_X1_asked rfl rfl rfl (by decide +kernel) ⟨Nat.le_of_ble_eq_true rfl, Nat.le_of_ble_eq_true rfl⟩) (wpz_V hZ hS hAb hP hK hD hN [0, 1, 2, 3, 4, 5, 6, 7, 8, 9, 10] (by decide) rfl (ci := 1) rfl rfl) rfl rfl hl.1 rfl (lv_room (Nat.le_of_ble_eq_true rfl)) dX1_gives_116 ⟨Nat.le_of_ble_eq_true rfl, Nat.le_of_ble_eq_true rfl⟩) hP hD hS hA [0, 1, 2, 3, 4, 5, 6, 7, 8, 9, 10] [] rfl rfl (by decide) (by decide) (fun r_6 u_6 H locs hw_6 hP hD hS => ?_)
      clear k_6
      obtain ⟨v6_0, v6_1⟩ := u_6
      have hP : va_P D kl [(h, .inr (1, [.ref nw, .ref bo, .int v6_0])), (bo, .inl (cI, 16, .inl v6_1)), (nw, .inr (3, [.int nvi, .int nro, .int nwa, .int nlz, .int nds, .int ndy, .int nga, .int npa, .ref nw0, .ref nw1, .ref nw2, .ref nw3, .ref nw4, .ref nw5, .ref nw6, .ref nw7])), (nw0, .inl (cI, 8, .inl nfw)), (nw1, .inl (cI, 8, .inl nfo)), (nw2, .inl (cI, 8, .inl nfr)), (nw3, .inl (cI, 8, .inl nfn)), (nw4, .inl (cI, 8, .inl nft)), (nw5, .inl (cI, 3, .inl nfk)), (nw6, .inl (cI, 3, .inl nfa)), (nw7, .inl (cI, 3, .inl nfb))] H := hP
      have hD : va_D A [(h, .inr (1, [.ref nw, .ref bo, .int v6_0])), (bo, .inl (cI, 16, .inl v6_1)), (nw, .inr (3, [.int nvi, .int nro, .int nwa, .int nlz, .int nds, .int ndy, .int nga, .int npa, .ref nw0, .ref nw1, .ref nw2, .ref nw3, .ref nw4, .ref nw5, .ref nw6, .ref nw7])), (nw0, .inl (cI, 8, .inl nfw)), (nw1, .inl (cI, 8, .inl nfo)), (nw2, .inl (cI, 8, .inl nfr)), (nw3, .inl (cI, 8, .inl nfn)), (nw4, .inl (cI, 8, .inl nft)), (nw5, .inl (cI, 3, .inl nfk)), (nw6, .inl (cI, 3, .inl nfa)), (nw7, .inl (cI, 3, .inl nfb))] := hD
      have c6_0 := hw_6
      have c6_0 : 0 ≤ v6_0.toInt ∧ v6_0.toInt ≤ 16 := c6_0
      refine lv_iadd hx hb dX1_gives_119 ?_
      refine lv_topi (fun x_7 ex_7 => ?_)
      clear ex_7
      exact wr_i (v := x_7) hx hb hr hlocks hS (v6_0, v6_1) (by exact show 0 ≤ (v6_0 : Int32).toInt ∧ (v6_0 : Int32).toInt ≤ 16 from by omega) (hP.sub [0, 1, 2, 3, 4, 5, 6, 7, 8, 9, 10] rfl) (hD.sub [0, 1, 2, 3, 4, 5, 6, 7, 8, 9, 10] (by decide) rfl) dX1_gives_120
    · refine lv_tableIn (off := 102) (tgt := 121) hx hb dX1_gives_19 (by omega) (by omega) (by rw [g_3]; rfl) (by decide) ?_
      refine lv_aload_n hx hb dX1_gives_121 rfl (lv_at hl 1 rfl) ?_
      refine lv_bipush (v := 11) hx hb dX1_gives_122 (by decide) ?_
      refine lv_iload_n hx hb dX1_gives_124 rfl (lv_at hl 3 rfl) ?_
      refine lv_iload hx hb dX1_gives_125 (lv_at hl 0 rfl) ?_
      have k_8 := (g_X1_gives_7 l D cI cB cQ z H.size h nw bo nw0 nw1 nw2 nw3 nw4 nw5 nw6 nw7 v1_0 nvi nro nwa nlz nds ndy nga npa 11 w v1_1 nfw nfo nfr nfn nft nfk nfa nfb nha (by omega) (by omega) (by omega) (by omega))
      refine wc_i (WC := [(h, .inr (1, [.ref nw, .ref bo, .int v1_0])), (bo, .inl (cI, 16, .inl v1_1)), (nw, .inr (3, [.int nvi, .int nro, .int nwa, .int nlz, .int nds, .int ndy, .int nga, .int npa, .ref nw0, .ref nw1, .ref nw2, .ref nw3, .ref nw4, .ref nw5, .ref nw6, .ref nw7])), (nw0, .inl (cI, 8, .inl nfw)), (nw1, .inl (cI, 8, .inl nfo)), (nw2, .inl (cI, 8, .inl nfr)), (nw3, .inl (cI, 8, .inl nfn)), (nw4, .inl (cI, 8, .inl nft)), (nw5, .inl (cI, 3, .inl nfk)), (nw6, .inl (cI, 3, .inl nfa)), (nw7, .inl (cI, 3, .inl nfb))]) (WR := []) (va_runV (As := [.int 11, .int w, .int 7]) (rest := []) ⟨hx, hb, hml, hown, hts⟩ k_8 (cwV 3 hts gX1_gives_X1_gives rfl rfl rfl (by decide +kernel) ⟨Nat.le_of_ble_eq_true rfl, Nat.le_of_ble_eq_true rfl⟩) (wpz_V hZ hS hAb hP hK hD hN [9, 10, 0, 1, 2, 3, 4, 5, 6, 7, 8] (by decide) rfl (ci := 1) rfl rfl) rfl rfl hl.1 rfl (lv_room (Nat.le_of_ble_eq_true rfl)) dX1_gives_127 ⟨Nat.le_of_ble_eq_true rfl, Nat.le_of_ble_eq_true rfl⟩) hP hD hS hA [9, 10, 0, 1, 2, 3, 4, 5, 6, 7, 8] [] rfl rfl (by decide) (by decide) (fun r_8 u_8 H locs hw_8 hP hD hS => ?_)
      clear k_8
      obtain ⟨v8_0, v8_1⟩ := u_8
      have hP : va_P D kl [(h, .inr (1, [.ref nw, .ref bo, .int v8_0])), (bo, .inl (cI, 16, .inl v8_1)), (nw, .inr (3, [.int nvi, .int nro, .int nwa, .int nlz, .int nds, .int ndy, .int nga, .int npa, .ref nw0, .ref nw1, .ref nw2, .ref nw3, .ref nw4, .ref nw5, .ref nw6, .ref nw7])), (nw0, .inl (cI, 8, .inl nfw)), (nw1, .inl (cI, 8, .inl nfo)), (nw2, .inl (cI, 8, .inl nfr)), (nw3, .inl (cI, 8, .inl nfn)), (nw4, .inl (cI, 8, .inl nft)), (nw5, .inl (cI, 3, .inl nfk)), (nw6, .inl (cI, 3, .inl nfa)), (nw7, .inl (cI, 3, .inl nfb))] H := hP
      have hD : va_D A [(h, .inr (1, [.ref nw, .ref bo, .int v8_0])), (bo, .inl (cI, 16, .inl v8_1)), (nw, .inr (3, [.int nvi, .int nro, .int nwa, .int nlz, .int nds, .int ndy, .int nga, .int npa, .ref nw0, .ref nw1, .ref nw2, .ref nw3, .ref nw4, .ref nw5, .ref nw6, .ref nw7])), (nw0, .inl (cI, 8, .inl nfw)), (nw1, .inl (cI, 8, .inl nfo)), (nw2, .inl (cI, 8, .inl nfr)), (nw3, .inl (cI, 8, .inl nfn)), (nw4, .inl (cI, 8, .inl nft)), (nw5, .inl (cI, 3, .inl nfk)), (nw6, .inl (cI, 3, .inl nfa)), (nw7, .inl (cI, 3, .inl nfb))] := hD
      have c8_0 := hw_8
      have c8_0 : 0 ≤ v8_0.toInt ∧ v8_0.toInt ≤ 16 := c8_0
      refine lv_ineg hx hb dX1_gives_130 ?_
      refine lv_topi (fun x_9 ex_9 => ?_)
      clear ex_9
      exact wr_i (v := x_9) hx hb hr hlocks hS (v8_0, v8_1) (by exact show 0 ≤ (v8_0 : Int32).toInt ∧ (v8_0 : Int32).toInt ≤ 16 from by omega) (hP.sub [0, 1, 2, 3, 4, 5, 6, 7, 8, 9, 10] rfl) (hD.sub [0, 1, 2, 3, 4, 5, 6, 7, 8, 9, 10] (by decide) rfl) dX1_gives_131
    · refine lv_tableIn (off := 113) (tgt := 132) hx hb dX1_gives_19 (by omega) (by omega) (by rw [g_3]; rfl) (by decide) ?_
      refine lv_aload_n hx hb dX1_gives_132 rfl (lv_at hl 1 rfl) ?_
      refine lv_bipush (v := 10) hx hb dX1_gives_133 (by decide) ?_
      refine lv_iload_n hx hb dX1_gives_135 rfl (lv_at hl 3 rfl) ?_
      refine lv_iload hx hb dX1_gives_136 (lv_at hl 0 rfl) ?_
      have k_10 := (g_X1_gives_7 l D cI cB cQ z H.size h nw bo nw0 nw1 nw2 nw3 nw4 nw5 nw6 nw7 v1_0 nvi nro nwa nlz nds ndy nga npa 10 w v1_1 nfw nfo nfr nfn nft nfk nfa nfb nha (by omega) (by omega) (by omega) (by omega))
      refine wc_i (WC := [(h, .inr (1, [.ref nw, .ref bo, .int v1_0])), (bo, .inl (cI, 16, .inl v1_1)), (nw, .inr (3, [.int nvi, .int nro, .int nwa, .int nlz, .int nds, .int ndy, .int nga, .int npa, .ref nw0, .ref nw1, .ref nw2, .ref nw3, .ref nw4, .ref nw5, .ref nw6, .ref nw7])), (nw0, .inl (cI, 8, .inl nfw)), (nw1, .inl (cI, 8, .inl nfo)), (nw2, .inl (cI, 8, .inl nfr)), (nw3, .inl (cI, 8, .inl nfn)), (nw4, .inl (cI, 8, .inl nft)), (nw5, .inl (cI, 3, .inl nfk)), (nw6, .inl (cI, 3, .inl nfa)), (nw7, .inl (cI, 3, .inl nfb))]) (WR := []) (va_runV (As := [.int 10, .int w, .int 7]) (rest := []) ⟨hx, hb, hml, hown, hts⟩ k_10 (cwV 3 hts gX1_gives_X1_gives rfl rfl rfl (by decide +kernel) ⟨Nat.le_of_ble_eq_true rfl, Nat.le_of_ble_eq_true rfl⟩) (wpz_V hZ hS hAb hP hK hD hN [9, 10, 0, 1, 2, 3, 4, 5, 6, 7, 8] (by decide) rfl (ci := 1) rfl rfl) rfl rfl hl.1 rfl (lv_room (Nat.le_of_ble_eq_true rfl)) dX1_gives_138 ⟨Nat.le_of_ble_eq_true rfl, Nat.le_of_ble_eq_true rfl⟩) hP hD hS hA [9, 10, 0, 1, 2, 3, 4, 5, 6, 7, 8] [] rfl rfl (by decide) (by decide) (fun r_10 u_10 H locs hw_10 hP hD hS => ?_)
      clear k_10
      obtain ⟨v10_0, v10_1⟩ := u_10
      have hP : va_P D kl [(h, .inr (1, [.ref nw, .ref bo, .int v10_0])), (bo, .inl (cI, 16, .inl v10_1)), (nw, .inr (3, [.int nvi, .int nro, .int nwa, .int nlz, .int nds, .int ndy, .int nga, .int npa, .ref nw0, .ref nw1, .ref nw2, .ref nw3, .ref nw4, .ref nw5, .ref nw6, .ref nw7])), (nw0, .inl (cI, 8, .inl nfw)), (nw1, .inl (cI, 8, .inl nfo)), (nw2, .inl (cI, 8, .inl nfr)), (nw3, .inl (cI, 8, .inl nfn)), (nw4, .inl (cI, 8, .inl nft)), (nw5, .inl (cI, 3, .inl nfk)), (nw6, .inl (cI, 3, .inl nfa)), (nw7, .inl (cI, 3, .inl nfb))] H := hP
      have hD : va_D A [(h, .inr (1, [.ref nw, .ref bo, .int v10_0])), (bo, .inl (cI, 16, .inl v10_1)), (nw, .inr (3, [.int nvi, .int nro, .int nwa, .int nlz, .int nds, .int ndy, .int nga, .int npa, .ref nw0, .ref nw1, .ref nw2, .ref nw3, .ref nw4, .ref nw5, .ref nw6, .ref nw7])), (nw0, .inl (cI, 8, .inl nfw)), (nw1, .inl (cI, 8, .inl nfo)), (nw2, .inl (cI, 8, .inl nfr)), (nw3, .inl (cI, 8, .inl nfn)), (nw4, .inl (cI, 8, .inl nft)), (nw5, .inl (cI, 3, .inl nfk)), (nw6, .inl (cI, 3, .inl nfa)), (nw7, .inl (cI, 3, .inl nfb))] := hD
      have c10_0 := hw_10
      have c10_0 : 0 ≤ v10_0.toInt ∧ v10_0.toInt ≤ 16 := c10_0
      refine lv_bipush (v := 100) hx hb dX1_gives_141 (by decide) ?_
      refine lv_isub hx hb dX1_gives_143 ?_
      refine lv_topi (fun x_11 ex_11 => ?_)
      clear ex_11
      exact wr_i (v := x_11) hx hb hr hlocks hS (v10_0, v10_1) (by exact show 0 ≤ (v10_0 : Int32).toInt ∧ (v10_0 : Int32).toInt ≤ 16 from by omega) (hP.sub [0, 1, 2, 3, 4, 5, 6, 7, 8, 9, 10] rfl) (hD.sub [0, 1, 2, 3, 4, 5, 6, 7, 8, 9, 10] (by decide) rfl) dX1_gives_144
    · refine lv_tableIn (off := 126) (tgt := 145) hx hb dX1_gives_19 (by omega) (by omega) (by rw [g_3]; rfl) (by decide) ?_
      refine lv_iconst (v := 2) hx hb dX1_gives_145 (by decide) ?_
      refine lv_aload_n hx hb dX1_gives_146 rfl (lv_at hl 1 rfl) ?_
      refine lv_bipush (v := 13) hx hb dX1_gives_147 (by decide) ?_
      refine lv_iload_n hx hb dX1_gives_149 rfl (lv_at hl 3 rfl) ?_
      refine lv_iload hx hb dX1_gives_150 (lv_at hl 0 rfl) ?_
      have k_12 := (g_X1_gives_7 l D cI cB cQ z H.size h nw bo nw0 nw1 nw2 nw3 nw4 nw5 nw6 nw7 v1_0 nvi nro nwa nlz nds ndy nga npa 13 w v1_1 nfw nfo nfr nfn nft nfk nfa nfb nha (by omega) (by omega) (by omega) (by omega))
      refine wc_i (WC := [(h, .inr (1, [.ref nw, .ref bo, .int v1_0])), (bo, .inl (cI, 16, .inl v1_1)), (nw, .inr (3, [.int nvi, .int nro, .int nwa, .int nlz, .int nds, .int ndy, .int nga, .int npa, .ref nw0, .ref nw1, .ref nw2, .ref nw3, .ref nw4, .ref nw5, .ref nw6, .ref nw7])), (nw0, .inl (cI, 8, .inl nfw)), (nw1, .inl (cI, 8, .inl nfo)), (nw2, .inl (cI, 8, .inl nfr)), (nw3, .inl (cI, 8, .inl nfn)), (nw4, .inl (cI, 8, .inl nft)), (nw5, .inl (cI, 3, .inl nfk)), (nw6, .inl (cI, 3, .inl nfa)), (nw7, .inl (cI, 3, .inl nfb))]) (WR := []) (va_runV (As := [.int 13, .int w, .int 7]) (rest := [.int 2]) ⟨hx, hb, hml, hown, hts⟩ k_12 (cwV 3 hts gX1_gives_X1_gives rfl rfl rfl (by decide +kernel) ⟨Nat.le_of_ble_eq_true rfl, Nat.le_of_ble_eq_true rfl⟩) (wpz_V hZ hS hAb hP hK hD hN [9, 10, 0, 1, 2, 3, 4, 5, 6, 7, 8] (by decide) rfl (ci := 1) rfl rfl) rfl rfl hl.1 rfl (lv_room (Nat.le_of_ble_eq_true rfl)) dX1_gives_152 ⟨Nat.le_of_ble_eq_true rfl, Nat.le_of_ble_eq_true rfl⟩) hP hD hS hA [9, 10, 0, 1, 2, 3, 4, 5, 6, 7, 8] [] rfl rfl (by decide) (by decide) (fun r_12 u_12 H locs hw_12 hP hD hS => ?_)
      clear k_12
      obtain ⟨v12_0, v12_1⟩ := u_12
      have hP : va_P D kl [(h, .inr (1, [.ref nw, .ref bo, .int v12_0])), (bo, .inl (cI, 16, .inl v12_1)), (nw, .inr (3, [.int nvi, .int nro, .int nwa, .int nlz, .int nds, .int ndy, .int nga, .int npa, .ref nw0, .ref nw1, .ref nw2, .ref nw3, .ref nw4, .ref nw5, .ref nw6, .ref nw7])), (nw0, .inl (cI, 8, .inl nfw)), (nw1, .inl (cI, 8, .inl nfo)), (nw2, .inl (cI, 8, .inl nfr)), (nw3, .inl (cI, 8, .inl nfn)), (nw4, .inl (cI, 8, .inl nft)), (nw5, .inl (cI, 3, .inl nfk)), (nw6, .inl (cI, 3, .inl nfa)), (nw7, .inl (cI, 3, .inl nfb))] H := hP
      have hD : va_D A [(h, .inr (1, [.ref nw, .ref bo, .int v12_0])), (bo, .inl (cI, 16, .inl v12_1)), (nw, .inr (3, [.int nvi, .int nro, .int nwa, .int nlz, .int nds, .int ndy, .int nga, .int npa, .ref nw0, .ref nw1, .ref nw2, .ref nw3, .ref nw4, .ref nw5, .ref nw6, .ref nw7])), (nw0, .inl (cI, 8, .inl nfw)), (nw1, .inl (cI, 8, .inl nfo)), (nw2, .inl (cI, 8, .inl nfr)), (nw3, .inl (cI, 8, .inl nfn)), (nw4, .inl (cI, 8, .inl nft)), (nw5, .inl (cI, 3, .inl nfk)), (nw6, .inl (cI, 3, .inl nfa)), (nw7, .inl (cI, 3, .inl nfb))] := hD
      have c12_0 := hw_12
      have c12_0 : 0 ≤ v12_0.toInt ∧ v12_0.toInt ≤ 16 := c12_0
      refine lv_imul hx hb dX1_gives_155 ?_
      refine lv_topi (fun x_13 ex_13 => ?_)
      clear ex_13
      exact wr_i (v := x_13) hx hb hr hlocks hS (v12_0, v12_1) (by exact show 0 ≤ (v12_0 : Int32).toInt ∧ (v12_0 : Int32).toInt ≤ 16 from by omega) (hP.sub [0, 1, 2, 3, 4, 5, 6, 7, 8, 9, 10] rfl) (hD.sub [0, 1, 2, 3, 4, 5, 6, 7, 8, 9, 10] (by decide) rfl) dX1_gives_156
    · refine lv_tableIn (off := 213) (tgt := 232) hx hb dX1_gives_19 (by omega) (by omega) (by rw [g_3]; rfl) (by decide) ?_
      refine lv_iconst (v := 0) hx hb dX1_gives_232 (by decide) ?_
      exact wr_i (v := 0) hx hb hr hlocks hS (v1_0, v1_1) (by exact show 0 ≤ (v1_0 : Int32).toInt ∧ (v1_0 : Int32).toInt ≤ 16 from by omega) (hP.sub [9, 10, 0, 1, 2, 3, 4, 5, 6, 7, 8] rfl) (hD.sub [9, 10, 0, 1, 2, 3, 4, 5, 6, 7, 8] (by decide) rfl) dX1_gives_233
    · refine lv_tableIn (off := 213) (tgt := 232) hx hb dX1_gives_19 (by omega) (by omega) (by rw [g_3]; rfl) (by decide) ?_
      refine lv_iconst (v := 0) hx hb dX1_gives_232 (by decide) ?_
      exact wr_i (v := 0) hx hb hr hlocks hS (v1_0, v1_1) (by exact show 0 ≤ (v1_0 : Int32).toInt ∧ (v1_0 : Int32).toInt ≤ 16 from by omega) (hP.sub [9, 10, 0, 1, 2, 3, 4, 5, 6, 7, 8] rfl) (hD.sub [9, 10, 0, 1, 2, 3, 4, 5, 6, 7, 8] (by decide) rfl) dX1_gives_233
    · refine lv_tableIn (off := 213) (tgt := 232) hx hb dX1_gives_19 (by omega) (by omega) (by rw [g_3]; rfl) (by decide) ?_
      refine lv_iconst (v := 0) hx hb dX1_gives_232 (by decide) ?_
      exact wr_i (v := 0) hx hb hr hlocks hS (v1_0, v1_1) (by exact show 0 ≤ (v1_0 : Int32).toInt ∧ (v1_0 : Int32).toInt ≤ 16 from by omega) (hP.sub [9, 10, 0, 1, 2, 3, 4, 5, 6, 7, 8] rfl) (hD.sub [9, 10, 0, 1, 2, 3, 4, 5, 6, 7, 8] (by decide) rfl) dX1_gives_233
    · refine lv_tableIn (off := 213) (tgt := 232) hx hb dX1_gives_19 (by omega) (by omega) (by rw [g_3]; rfl) (by decide) ?_
      refine lv_iconst (v := 0) hx hb dX1_gives_232 (by decide) ?_
      exact wr_i (v := 0) hx hb hr hlocks hS (v1_0, v1_1) (by exact show 0 ≤ (v1_0 : Int32).toInt ∧ (v1_0 : Int32).toInt ≤ 16 from by omega) (hP.sub [9, 10, 0, 1, 2, 3, 4, 5, 6, 7, 8] rfl) (hD.sub [9, 10, 0, 1, 2, 3, 4, 5, 6, 7, 8] (by decide) rfl) dX1_gives_233
    · refine lv_tableIn (off := 213) (tgt := 232) hx hb dX1_gives_19 (by omega) (by omega) (by rw [g_3]; rfl) (by decide) ?_
      refine lv_iconst (v := 0) hx hb dX1_gives_232 (by decide) ?_
      exact wr_i (v := 0) hx hb hr hlocks hS (v1_0, v1_1) (by exact show 0 ≤ (v1_0 : Int32).toInt ∧ (v1_0 : Int32).toInt ≤ 16 from by omega) (hP.sub [9, 10, 0, 1, 2, 3, 4, 5, 6, 7, 8] rfl) (hD.sub [9, 10, 0, 1, 2, 3, 4, 5, 6, 7, 8] (by decide) rfl) dX1_gives_233
    · refine lv_tableIn (off := 138) (tgt := 157) hx hb dX1_gives_19 (by omega) (by omega) (by rw [g_3]; rfl) (by decide) ?_
      refine lv_iload_n hx hb dX1_gives_157 rfl (lv_at hl 3 rfl) ?_
      exact wr_i (v := w) hx hb hr hlocks hS (v1_0, v1_1) (by exact show 0 ≤ (v1_0 : Int32).toInt ∧ (v1_0 : Int32).toInt ≤ 16 from by omega) (hP.sub [9, 10, 0, 1, 2, 3, 4, 5, 6, 7, 8] rfl) (hD.sub [9, 10, 0, 1, 2, 3, 4, 5, 6, 7, 8] (by decide) rfl) dX1_gives_158
    · refine lv_tableIn (off := 140) (tgt := 159) hx hb dX1_gives_19 (by omega) (by omega) (by rw [g_3]; rfl) (by decide) ?_
      refine lv_aload_n hx hb dX1_gives_159 rfl (lv_at hl 1 rfl) ?_
      refine lv_bipush (v := 20) hx hb dX1_gives_160 (by decide) ?_
      refine lv_iload_n hx hb dX1_gives_162 rfl (lv_at hl 3 rfl) ?_
      refine lv_iload hx hb dX1_gives_163 (lv_at hl 0 rfl) ?_
      have k_14 := (g_X1_gives_7 l D cI cB cQ z H.size h nw bo nw0 nw1 nw2 nw3 nw4 nw5 nw6 nw7 v1_0 nvi nro nwa nlz nds ndy nga npa 20 w v1_1 nfw nfo nfr nfn nft nfk nfa nfb nha (by omega) (by omega) (by omega) (by omega))
      refine wc_i (WC := [(h, .inr (1, [.ref nw, .ref bo, .int v1_0])), (bo, .inl (cI, 16, .inl v1_1)), (nw, .inr (3, [.int nvi, .int nro, .int nwa, .int nlz, .int nds, .int ndy, .int nga, .int npa, .ref nw0, .ref nw1, .ref nw2, .ref nw3, .ref nw4, .ref nw5, .ref nw6, .ref nw7])), (nw0, .inl (cI, 8, .inl nfw)), (nw1, .inl (cI, 8, .inl nfo)), (nw2, .inl (cI, 8, .inl nfr)), (nw3, .inl (cI, 8, .inl nfn)), (nw4, .inl (cI, 8, .inl nft)), (nw5, .inl (cI, 3, .inl nfk)), (nw6, .inl (cI, 3, .inl nfa)), (nw7, .inl (cI, 3, .inl nfb))]) (WR := []) (va_runV (As := [.int 20, .int w, .int 7]) (rest := []) ⟨hx, hb, hml, hown, hts⟩ k_14 (cwV 3 hts gX1_gives_X1_gives rfl rfl rfl (by decide +kernel) ⟨Nat.le_of_ble_eq_true rfl, Nat.le_of_ble_eq_true rfl⟩) (wpz_V hZ hS hAb hP hK hD hN [9, 10, 0, 1, 2, 3, 4, 5, 6, 7, 8] (by decide) rfl (ci := 1) rfl rfl) rfl rfl hl.1 rfl (lv_room (Nat.le_of_ble_eq_true rfl)) dX1_gives_165 ⟨Nat.le_of_ble_eq_true rfl, Nat.le_of_ble_eq_true rfl⟩) hP hD hS hA [9, 10, 0, 1, 2, 3, 4, 5, 6, 7, 8] [] rfl rfl (by decide) (by decide) (fun r_14 u_14 H locs hw_14 hP hD hS => ?_)
      clear k_14
      obtain ⟨v14_0, v14_1⟩ := u_14
      have hP : va_P D kl [(h, .inr (1, [.ref nw, .ref bo, .int v14_0])), (bo, .inl (cI, 16, .inl v14_1)), (nw, .inr (3, [.int nvi, .int nro, .int nwa, .int nlz, .int nds, .int ndy, .int nga, .int npa, .ref nw0, .ref nw1, .ref nw2, .ref nw3, .ref nw4, .ref nw5, .ref nw6, .ref nw7])), (nw0, .inl (cI, 8, .inl nfw)), (nw1, .inl (cI, 8, .inl nfo)), (nw2, .inl (cI, 8, .inl nfr)), (nw3, .inl (cI, 8, .inl nfn)), (nw4, .inl (cI, 8, .inl nft)), (nw5, .inl (cI, 3, .inl nfk)), (nw6, .inl (cI, 3, .inl nfa)), (nw7, .inl (cI, 3, .inl nfb))] H := hP
      have hD : va_D A [(h, .inr (1, [.ref nw, .ref bo, .int v14_0])), (bo, .inl (cI, 16, .inl v14_1)), (nw, .inr (3, [.int nvi, .int nro, .int nwa, .int nlz, .int nds, .int ndy, .int nga, .int npa, .ref nw0, .ref nw1, .ref nw2, .ref nw3, .ref nw4, .ref nw5, .ref nw6, .ref nw7])), (nw0, .inl (cI, 8, .inl nfw)), (nw1, .inl (cI, 8, .inl nfo)), (nw2, .inl (cI, 8, .inl nfr)), (nw3, .inl (cI, 8, .inl nfn)), (nw4, .inl (cI, 8, .inl nft)), (nw5, .inl (cI, 3, .inl nfk)), (nw6, .inl (cI, 3, .inl nfa)), (nw7, .inl (cI, 3, .inl nfb))] := hD
      have c14_0 := hw_14
      have c14_0 : 0 ≤ v14_0.toInt ∧ v14_0.toInt ≤ 16 := c14_0
      refine lv_aload_n hx hb dX1_gives_168 rfl (lv_at hl 1 rfl) ?_
      refine va_get (D := D) (ci := 1) (v := .ref nw) (C := RX1) (T := TX1) (N := 3) hx hb hts (fun _ h => List.mem_cons_of_mem _ (List.mem_append_left _ (List.mem_append_right _ h))) hown hK hP 0 rfl rfl 0 (by decide) (hts (.fieldLink RX1 19 "WinterWalk$Asks" "land" "LWinterWalk$Land;") (List.mem_of_getElem? (i := 1) rfl)) (fun _ h9 => h9) rfl dX1_gives_169 ?_
      refine va_get (D := D) (ci := 3) (v := .ref nw1) (C := RX4) (T := TX4) (N := 16) hx hb hts (fun _ h => List.mem_cons_of_mem _ (List.mem_append_right _ h)) hown hK hP 2 rfl rfl 9 (by decide) (hts (.fieldLink RX1 62 "WinterWalk$Land" "offers" "[I") (List.mem_of_getElem? (i := 3) rfl)) (fun _ h9 => h9) rfl dX1_gives_172 ?_
      refine lv_aload_n hx hb dX1_gives_175 rfl (lv_at hl 1 rfl) ?_
      refine va_get (D := D) (ci := 1) (v := .ref nw) (C := RX1) (T := TX1) (N := 3) hx hb hts (fun _ h => List.mem_cons_of_mem _ (List.mem_append_left _ (List.mem_append_right _ h))) hown hK hP 0 rfl rfl 0 (by decide) (hts (.fieldLink RX1 19 "WinterWalk$Asks" "land" "LWinterWalk$Land;") (List.mem_of_getElem? (i := 1) rfl)) (fun _ h9 => h9) rfl dX1_gives_176 ?_
      refine va_get (D := D) (ci := 3) (v := .ref nw6) (C := RX4) (T := TX4) (N := 16) hx hb hts (fun _ h => List.mem_cons_of_mem _ (List.mem_append_right _ h)) hown hK hP 2 rfl rfl 14 (by decide) (hts (.fieldLink RX1 59 "WinterWalk$Land" "at" "[I") (List.mem_of_getElem? (i := 2) rfl)) (fun _ h9 => h9) rfl dX1_gives_179 ?_
      refine lv_iload_n hx hb dX1_gives_182 rfl (lv_at hl 3 rfl) ?_
      refine va_iald hx hb hK hP 9 0 rfl rfl (zi_in (by omega) (by omega)) dX1_gives_183 ?_
      refine lv_topi (fun x_15 ex_15 => ?_)
      have f_15 : 0 ≤ x_15.toInt ∧ x_15.toInt ≤ 7 := by rw [ex_15]; exact nha _ (zi_cl (by omega) (by omega))
      clear ex_15
      refine va_iald hx hb hK hP 4 0 rfl rfl (zi_in (by omega) (by omega)) dX1_gives_184 ?_
      refine lv_topi (fun x_16 ex_16 => ?_)
      clear ex_16
      refine lv_iadd hx hb dX1_gives_185 ?_
      refine lv_topi (fun x_17 ex_17 => ?_)
      clear ex_17
      exact wr_i (v := x_17) hx hb hr hlocks hS (v14_0, v14_1) (by exact show 0 ≤ (v14_0 : Int32).toInt ∧ (v14_0 : Int32).toInt ≤ 16 from by omega) (hP.sub [0, 1, 2, 3, 4, 5, 6, 7, 8, 9, 10] rfl) (hD.sub [0, 1, 2, 3, 4, 5, 6, 7, 8, 9, 10] (by decide) rfl) dX1_gives_186
    · refine lv_tableIn (off := 168) (tgt := 187) hx hb dX1_gives_19 (by omega) (by omega) (by rw [g_3]; rfl) (by decide) ?_
      refine lv_aload_n hx hb dX1_gives_187 rfl (lv_at hl 1 rfl) ?_
      refine lv_bipush (v := 21) hx hb dX1_gives_188 (by decide) ?_
      refine lv_iload_n hx hb dX1_gives_190 rfl (lv_at hl 3 rfl) ?_
      refine lv_iload hx hb dX1_gives_191 (lv_at hl 0 rfl) ?_
      have k_18 := (g_X1_gives_7 l D cI cB cQ z H.size h nw bo nw0 nw1 nw2 nw3 nw4 nw5 nw6 nw7 v1_0 nvi nro nwa nlz nds ndy nga npa 21 w v1_1 nfw nfo nfr nfn nft nfk nfa nfb nha (by omega) (by omega) (by omega) (by omega))
      refine wc_i (WC := [(h, .inr (1, [.ref nw, .ref bo, .int v1_0])), (bo, .inl (cI, 16, .inl v1_1)), (nw, .inr (3, [.int nvi, .int nro, .int nwa, .int nlz, .int nds, .int ndy, .int nga, .int npa, .ref nw0, .ref nw1, .ref nw2, .ref nw3, .ref nw4, .ref nw5, .ref nw6, .ref nw7])), (nw0, .inl (cI, 8, .inl nfw)), (nw1, .inl (cI, 8, .inl nfo)), (nw2, .inl (cI, 8, .inl nfr)), (nw3, .inl (cI, 8, .inl nfn)), (nw4, .inl (cI, 8, .inl nft)), (nw5, .inl (cI, 3, .inl nfk)), (nw6, .inl (cI, 3, .inl nfa)), (nw7, .inl (cI, 3, .inl nfb))]) (WR := []) (va_runV (As := [.int 21, .int w, .int 7]) (rest := []) ⟨hx, hb, hml, hown, hts⟩ k_18 (cwV 3 hts gX1_gives_X1_gives rfl rfl rfl (by decide +kernel) ⟨Nat.le_of_ble_eq_true rfl, Nat.le_of_ble_eq_true rfl⟩) (wpz_V hZ hS hAb hP hK hD hN [9, 10, 0, 1, 2, 3, 4, 5, 6, 7, 8] (by decide) rfl (ci := 1) rfl rfl) rfl rfl hl.1 rfl (lv_room (Nat.le_of_ble_eq_true rfl)) dX1_gives_193 ⟨Nat.le_of_ble_eq_true rfl, Nat.le_of_ble_eq_true rfl⟩) hP hD hS hA [9, 10, 0, 1, 2, 3, 4, 5, 6, 7, 8] [] rfl rfl (by decide) (by decide) (fun r_18 u_18 H locs hw_18 hP hD hS => ?_)
      clear k_18
      obtain ⟨v18_0, v18_1⟩ := u_18
      have hP : va_P D kl [(h, .inr (1, [.ref nw, .ref bo, .int v18_0])), (bo, .inl (cI, 16, .inl v18_1)), (nw, .inr (3, [.int nvi, .int nro, .int nwa, .int nlz, .int nds, .int ndy, .int nga, .int npa, .ref nw0, .ref nw1, .ref nw2, .ref nw3, .ref nw4, .ref nw5, .ref nw6, .ref nw7])), (nw0, .inl (cI, 8, .inl nfw)), (nw1, .inl (cI, 8, .inl nfo)), (nw2, .inl (cI, 8, .inl nfr)), (nw3, .inl (cI, 8, .inl nfn)), (nw4, .inl (cI, 8, .inl nft)), (nw5, .inl (cI, 3, .inl nfk)), (nw6, .inl (cI, 3, .inl nfa)), (nw7, .inl (cI, 3, .inl nfb))] H := hP
      have hD : va_D A [(h, .inr (1, [.ref nw, .ref bo, .int v18_0])), (bo, .inl (cI, 16, .inl v18_1)), (nw, .inr (3, [.int nvi, .int nro, .int nwa, .int nlz, .int nds, .int ndy, .int nga, .int npa, .ref nw0, .ref nw1, .ref nw2, .ref nw3, .ref nw4, .ref nw5, .ref nw6, .ref nw7])), (nw0, .inl (cI, 8, .inl nfw)), (nw1, .inl (cI, 8, .inl nfo)), (nw2, .inl (cI, 8, .inl nfr)), (nw3, .inl (cI, 8, .inl nfn)), (nw4, .inl (cI, 8, .inl nft)), (nw5, .inl (cI, 3, .inl nfk)), (nw6, .inl (cI, 3, .inl nfa)), (nw7, .inl (cI, 3, .inl nfb))] := hD
      have c18_0 := hw_18
      have c18_0 : 0 ≤ v18_0.toInt ∧ v18_0.toInt ≤ 16 := c18_0
      refine lv_sipush (v := 1000) hx hb dX1_gives_196 (by decide) ?_
      refine lv_isub hx hb dX1_gives_199 ?_
      refine lv_topi (fun x_19 ex_19 => ?_)
      clear ex_19
      exact wr_i (v := x_19) hx hb hr hlocks hS (v18_0, v18_1) (by exact show 0 ≤ (v18_0 : Int32).toInt ∧ (v18_0 : Int32).toInt ≤ 16 from by omega) (hP.sub [0, 1, 2, 3, 4, 5, 6, 7, 8, 9, 10] rfl) (hD.sub [0, 1, 2, 3, 4, 5, 6, 7, 8, 9, 10] (by decide) rfl) dX1_gives_200
    · refine lv_tableIn (off := 182) (tgt := 201) hx hb dX1_gives_19 (by omega) (by omega) (by rw [g_3]; rfl) (by decide) ?_
      refine lv_aload_n hx hb dX1_gives_201 rfl (lv_at hl 1 rfl) ?_
      refine lv_bipush (v := 20) hx hb dX1_gives_202 (by decide) ?_
      refine lv_iload_n hx hb dX1_gives_204 rfl (lv_at hl 3 rfl) ?_
      refine lv_iload hx hb dX1_gives_205 (lv_at hl 0 rfl) ?_
      have k_20 := (g_X1_gives_7 l D cI cB cQ z H.size h nw bo nw0 nw1 nw2 nw3 nw4 nw5 nw6 nw7 v1_0 nvi nro nwa nlz nds ndy nga npa 20 w v1_1 nfw nfo nfr nfn nft nfk nfa nfb nha (by omega) (by omega) (by omega) (by omega))
      refine wc_i (WC := [(h, .inr (1, [.ref nw, .ref bo, .int v1_0])), (bo, .inl (cI, 16, .inl v1_1)), (nw, .inr (3, [.int nvi, .int nro, .int nwa, .int nlz, .int nds, .int ndy, .int nga, .int npa, .ref nw0, .ref nw1, .ref nw2, .ref nw3, .ref nw4, .ref nw5, .ref nw6, .ref nw7])), (nw0, .inl (cI, 8, .inl nfw)), (nw1, .inl (cI, 8, .inl nfo)), (nw2, .inl (cI, 8, .inl nfr)), (nw3, .inl (cI, 8, .inl nfn)), (nw4, .inl (cI, 8, .inl nft)), (nw5, .inl (cI, 3, .inl nfk)), (nw6, .inl (cI, 3, .inl nfa)), (nw7, .inl (cI, 3, .inl nfb))]) (WR := []) (va_runV (As := [.int 20, .int w, .int 7]) (rest := []) ⟨hx, hb, hml, hown, hts⟩ k_20 (cwV 3 hts gX1_gives_X1_gives rfl rfl rfl (by decide +kernel) ⟨Nat.le_of_ble_eq_true rfl, Nat.le_of_ble_eq_true rfl⟩) (wpz_V hZ hS hAb hP hK hD hN [9, 10, 0, 1, 2, 3, 4, 5, 6, 7, 8] (by decide) rfl (ci := 1) rfl rfl) rfl rfl hl.1 rfl (lv_room (Nat.le_of_ble_eq_true rfl)) dX1_gives_207 ⟨Nat.le_of_ble_eq_true rfl, Nat.le_of_ble_eq_true rfl⟩) hP hD hS hA [9, 10, 0, 1, 2, 3, 4, 5, 6, 7, 8] [] rfl rfl (by decide) (by decide) (fun r_20 u_20 H locs hw_20 hP hD hS => ?_)
      clear k_20
      obtain ⟨v20_0, v20_1⟩ := u_20
      have hP : va_P D kl [(h, .inr (1, [.ref nw, .ref bo, .int v20_0])), (bo, .inl (cI, 16, .inl v20_1)), (nw, .inr (3, [.int nvi, .int nro, .int nwa, .int nlz, .int nds, .int ndy, .int nga, .int npa, .ref nw0, .ref nw1, .ref nw2, .ref nw3, .ref nw4, .ref nw5, .ref nw6, .ref nw7])), (nw0, .inl (cI, 8, .inl nfw)), (nw1, .inl (cI, 8, .inl nfo)), (nw2, .inl (cI, 8, .inl nfr)), (nw3, .inl (cI, 8, .inl nfn)), (nw4, .inl (cI, 8, .inl nft)), (nw5, .inl (cI, 3, .inl nfk)), (nw6, .inl (cI, 3, .inl nfa)), (nw7, .inl (cI, 3, .inl nfb))] H := hP
      have hD : va_D A [(h, .inr (1, [.ref nw, .ref bo, .int v20_0])), (bo, .inl (cI, 16, .inl v20_1)), (nw, .inr (3, [.int nvi, .int nro, .int nwa, .int nlz, .int nds, .int ndy, .int nga, .int npa, .ref nw0, .ref nw1, .ref nw2, .ref nw3, .ref nw4, .ref nw5, .ref nw6, .ref nw7])), (nw0, .inl (cI, 8, .inl nfw)), (nw1, .inl (cI, 8, .inl nfo)), (nw2, .inl (cI, 8, .inl nfr)), (nw3, .inl (cI, 8, .inl nfn)), (nw4, .inl (cI, 8, .inl nft)), (nw5, .inl (cI, 3, .inl nfk)), (nw6, .inl (cI, 3, .inl nfa)), (nw7, .inl (cI, 3, .inl nfb))] := hD
      have c20_0 := hw_20
      have c20_0 : 0 ≤ v20_0.toInt ∧ v20_0.toInt ≤ 16 := c20_0
      refine lv_aload_n hx hb dX1_gives_210 rfl (lv_at hl 1 rfl) ?_
      refine lv_iload_n hx hb dX1_gives_211 rfl (lv_at hl 3 rfl) ?_
      refine lv_iconst (v := 0) hx hb dX1_gives_212 (by decide) ?_
      refine lv_iload hx hb dX1_gives_213 (lv_at hl 0 rfl) ?_
      have k_21 := (g_X1_asked_7 l D cI cB cQ z H.size h nw bo nw0 nw1 nw2 nw3 nw4 nw5 nw6 nw7 v20_0 nvi nro nwa nlz nds ndy nga npa w 0 v20_1 nfw nfo nfr nfn nft nfk nfa nfb nha (by omega) (by omega) (by omega) (by omega))
      refine wc_i (WC := [(h, .inr (1, [.ref nw, .ref bo, .int v20_0])), (bo, .inl (cI, 16, .inl v20_1)), (nw, .inr (3, [.int nvi, .int nro, .int nwa, .int nlz, .int nds, .int ndy, .int nga, .int npa, .ref nw0, .ref nw1, .ref nw2, .ref nw3, .ref nw4, .ref nw5, .ref nw6, .ref nw7])), (nw0, .inl (cI, 8, .inl nfw)), (nw1, .inl (cI, 8, .inl nfo)), (nw2, .inl (cI, 8, .inl nfr)), (nw3, .inl (cI, 8, .inl nfn)), (nw4, .inl (cI, 8, .inl nft)), (nw5, .inl (cI, 3, .inl nfk)), (nw6, .inl (cI, 3, .inl nfa)), (nw7, .inl (cI, 3, .inl nfb))]) (WR := []) (va_runV (As := [.int w, .int 0, .int 7]) (rest := [.int r_20]) ⟨hx, hb, hml, hown, hts⟩ k_21 (cwV 3 hts gX1_gives_X1_asked rfl rfl rfl (by decide +kernel) ⟨Nat.le_of_ble_eq_true rfl, Nat.le_of_ble_eq_true rfl⟩) (wpz_V hZ hS hAb hP hK hD hN [0, 1, 2, 3, 4, 5, 6, 7, 8, 9, 10] (by decide) rfl (ci := 1) rfl rfl) rfl rfl hl.1 rfl (lv_room (Nat.le_of_ble_eq_true rfl)) dX1_gives_215 ⟨Nat.le_of_ble_eq_true rfl, Nat.le_of_ble_eq_true rfl⟩) hP hD hS hA [0, 1, 2, 3, 4, 5, 6, 7, 8, 9, 10] [] rfl rfl (by decide) (by decide) (fun r_21 u_21 H locs hw_21 hP hD hS => ?_)
      clear k_21
      obtain ⟨v21_0, v21_1⟩ := u_21
      have hP : va_P D kl [(h, .inr (1, [.ref nw, .ref bo, .int v21_0])), (bo, .inl (cI, 16, .inl v21_1)), (nw, .inr (3, [.int nvi, .int nro, .int nwa, .int nlz, .int nds, .int ndy, .int nga, .int npa, .ref nw0, .ref nw1, .ref nw2, .ref nw3, .ref nw4, .ref nw5, .ref nw6, .ref nw7])), (nw0, .inl (cI, 8, .inl nfw)), (nw1, .inl (cI, 8, .inl nfo)), (nw2, .inl (cI, 8, .inl nfr)), (nw3, .inl (cI, 8, .inl nfn)), (nw4, .inl (cI, 8, .inl nft)), (nw5, .inl (cI, 3, .inl nfk)), (nw6, .inl (cI, 3, .inl nfa)), (nw7, .inl (cI, 3, .inl nfb))] H := hP
      have hD : va_D A [(h, .inr (1, [.ref nw, .ref bo, .int v21_0])), (bo, .inl (cI, 16, .inl v21_1)), (nw, .inr (3, [.int nvi, .int nro, .int nwa, .int nlz, .int nds, .int ndy, .int nga, .int npa, .ref nw0, .ref nw1, .ref nw2, .ref nw3, .ref nw4, .ref nw5, .ref nw6, .ref nw7])), (nw0, .inl (cI, 8, .inl nfw)), (nw1, .inl (cI, 8, .inl nfo)), (nw2, .inl (cI, 8, .inl nfr)), (nw3, .inl (cI, 8, .inl nfn)), (nw4, .inl (cI, 8, .inl nft)), (nw5, .inl (cI, 3, .inl nfk)), (nw6, .inl (cI, 3, .inl nfa)), (nw7, .inl (cI, 3, .inl nfb))] := hD
      have c21_0 := hw_21
      have c21_0 : 0 ≤ v21_0.toInt ∧ v21_0.toInt ≤ 16 := c21_0
      refine lv_isub hx hb dX1_gives_218 ?_
      refine lv_topi (fun x_22 ex_22 => ?_)
      clear ex_22
      exact wr_i (v := x_22) hx hb hr hlocks hS (v21_0, v21_1) (by exact show 0 ≤ (v21_0 : Int32).toInt ∧ (v21_0 : Int32).toInt ≤ 16 from by omega) (hP.sub [0, 1, 2, 3, 4, 5, 6, 7, 8, 9, 10] rfl) (hD.sub [0, 1, 2, 3, 4, 5, 6, 7, 8, 9, 10] (by decide) rfl) dX1_gives_219
    · refine lv_tableIn (off := 201) (tgt := 220) hx hb dX1_gives_19 (by omega) (by omega) (by rw [g_3]; rfl) (by decide) ?_
      refine lv_iconst (v := 2) hx hb dX1_gives_220 (by decide) ?_
      refine lv_aload_n hx hb dX1_gives_221 rfl (lv_at hl 1 rfl) ?_
      refine lv_bipush (v := 21) hx hb dX1_gives_222 (by decide) ?_
      refine lv_iload_n hx hb dX1_gives_224 rfl (lv_at hl 3 rfl) ?_
      refine lv_iload hx hb dX1_gives_225 (lv_at hl 0 rfl) ?_
      have k_23 := (g_X1_gives_7 l D cI cB cQ z H.size h nw bo nw0 nw1 nw2 nw3 nw4 nw5 nw6 nw7 v1_0 nvi nro nwa nlz nds ndy nga npa 21 w v1_1 nfw nfo nfr nfn nft nfk nfa nfb nha (by omega) (by omega) (by omega) (by omega))
      refine wc_i (WC := [(h, .inr (1, [.ref nw, .ref bo, .int v1_0])), (bo, .inl (cI, 16, .inl v1_1)), (nw, .inr (3, [.int nvi, .int nro, .int nwa, .int nlz, .int nds, .int ndy, .int nga, .int npa, .ref nw0, .ref nw1, .ref nw2, .ref nw3, .ref nw4, .ref nw5, .ref nw6, .ref nw7])), (nw0, .inl (cI, 8, .inl nfw)), (nw1, .inl (cI, 8, .inl nfo)), (nw2, .inl (cI, 8, .inl nfr)), (nw3, .inl (cI, 8, .inl nfn)), (nw4, .inl (cI, 8, .inl nft)), (nw5, .inl (cI, 3, .inl nfk)), (nw6, .inl (cI, 3, .inl nfa)), (nw7, .inl (cI, 3, .inl nfb))]) (WR := []) (va_runV (As := [.int 21, .int w, .int 7]) (rest := [.int 2]) ⟨hx, hb, hml, hown, hts⟩ k_23 (cwV 3 hts gX1_gives_X1_gives rfl rfl rfl (by decide +kernel) ⟨Nat.le_of_ble_eq_true rfl, Nat.le_of_ble_eq_true rfl⟩) (wpz_V hZ hS hAb hP hK hD hN [9, 10, 0, 1, 2, 3, 4, 5, 6, 7, 8] (by decide) rfl (ci := 1) rfl rfl) rfl rfl hl.1 rfl (lv_room (Nat.le_of_ble_eq_true rfl)) dX1_gives_227 ⟨Nat.le_of_ble_eq_true rfl, Nat.le_of_ble_eq_true rfl⟩) hP hD hS hA [9, 10, 0, 1, 2, 3, 4, 5, 6, 7, 8] [] rfl rfl (by decide) (by decide) (fun r_23 u_23 H locs hw_23 hP hD hS => ?_)
      clear k_23
      obtain ⟨v23_0, v23_1⟩ := u_23
      have hP : va_P D kl [(h, .inr (1, [.ref nw, .ref bo, .int v23_0])), (bo, .inl (cI, 16, .inl v23_1)), (nw, .inr (3, [.int nvi, .int nro, .int nwa, .int nlz, .int nds, .int ndy, .int nga, .int npa, .ref nw0, .ref nw1, .ref nw2, .ref nw3, .ref nw4, .ref nw5, .ref nw6, .ref nw7])), (nw0, .inl (cI, 8, .inl nfw)), (nw1, .inl (cI, 8, .inl nfo)), (nw2, .inl (cI, 8, .inl nfr)), (nw3, .inl (cI, 8, .inl nfn)), (nw4, .inl (cI, 8, .inl nft)), (nw5, .inl (cI, 3, .inl nfk)), (nw6, .inl (cI, 3, .inl nfa)), (nw7, .inl (cI, 3, .inl nfb))] H := hP
      have hD : va_D A [(h, .inr (1, [.ref nw, .ref bo, .int v23_0])), (bo, .inl (cI, 16, .inl v23_1)), (nw, .inr (3, [.int nvi, .int nro, .int nwa, .int nlz, .int nds, .int ndy, .int nga, .int npa, .ref nw0, .ref nw1, .ref nw2, .ref nw3, .ref nw4, .ref nw5, .ref nw6, .ref nw7])), (nw0, .inl (cI, 8, .inl nfw)), (nw1, .inl (cI, 8, .inl nfo)), (nw2, .inl (cI, 8, .inl nfr)), (nw3, .inl (cI, 8, .inl nfn)), (nw4, .inl (cI, 8, .inl nft)), (nw5, .inl (cI, 3, .inl nfk)), (nw6, .inl (cI, 3, .inl nfa)), (nw7, .inl (cI, 3, .inl nfb))] := hD
      have c23_0 := hw_23
      have c23_0 : 0 ≤ v23_0.toInt ∧ v23_0.toInt ≤ 16 := c23_0
      refine lv_imul hx hb dX1_gives_230 ?_
      refine lv_topi (fun x_24 ex_24 => ?_)
      clear ex_24
      exact wr_i (v := x_24) hx hb hr hlocks hS (v23_0, v23_1) (by exact show 0 ≤ (v23_0 : Int32).toInt ∧ (v23_0 : Int32).toInt ≤ 16 from by omega) (hP.sub [0, 1, 2, 3, 4, 5, 6, 7, 8, 9, 10] rfl) (hD.sub [0, 1, 2, 3, 4, 5, 6, 7, 8, 9, 10] (by decide) rfl) dX1_gives_231
set_option maxHeartbeats 4000000 in
set_option maxRecDepth 100000 in
theorem g_X1_asked_6 (l : Launch) (D : va_G) (cI cB cQ : ClassId) (z : ZT) (sz : Nat) (h : Nat) (nw : Nat) (bo : Nat) (nw0 : Nat) (nw1 : Nat) (nw2 : Nat) (nw3 : Nat) (nw4 : Nat) (nw5 : Nat) (nw6 : Nat) (nw7 : Nat) (tc : Int32) (nvi : Int32) (nro : Int32) (nwa : Int32) (nlz : Int32) (nds : Int32) (ndy : Int32) (nga : Int32) (npa : Int32) (w : Int32) (k : Int32) (bf : Nat → Int32) (nfw : Nat → Int32) (nfo : Nat → Int32) (nfr : Nat → Int32) (nfn : Nat → Int32) (nft : Nat → Int32) (nfk : Nat → Int32) (nfa : Nat → Int32) (nfb : Nat → Int32) (nha : ∀ j, j < 3 → 0 ≤ (nfa j).toInt ∧ (nfa j).toInt ≤ 7) (h_tc : 0 ≤ tc.toInt ∧ tc.toInt ≤ 16) (h_nvi : 0 ≤ nvi.toInt ∧ nvi.toInt ≤ 8) (h_nwa : 0 ≤ nwa.toInt ∧ nwa.toInt ≤ 3) (h_w : 0 ≤ w.toInt ∧ w.toInt ≤ 2) : miz l yX1_asked wsX1_asked ({ frames := 9, cells := 0, slots := 0, locals := 207 }) z D cI cB cQ [.ref h, .int w, .int k, .int 6] sz [(h, .inr (1, [.ref nw, .ref bo, .int tc])), (bo, .inl (cI, 16, .inl bf)), (nw, .inr (3, [.int nvi, .int nro, .int nwa, .int nlz, .int nds, .int ndy, .int nga, .int npa, .ref nw0, .ref nw1, .ref nw2, .ref nw3, .ref nw4, .ref nw5, .ref nw6, .ref nw7])), (nw0, .inl (cI, 8, .inl nfw)), (nw1, .inl (cI, 8, .inl nfo)), (nw2, .inl (cI, 8, .inl nfr)), (nw3, .inl (cI, 8, .inl nfn)), (nw4, .inl (cI, 8, .inl nft)), (nw5, .inl (cI, 3, .inl nfk)), (nw6, .inl (cI, 3, .inl nfa)), (nw7, .inl (cI, 3, .inl nfb))] (fun (r : Int32) (u : Int32 × (Nat → Int32)) => (0 ≤ u.1.toInt ∧ u.1.toInt ≤ 16)) (fun u => [(h, .inr (1, [.ref nw, .ref bo, .int u.1])), (bo, .inl (cI, 16, .inl u.2)), (nw, .inr (3, [.int nvi, .int nro, .int nwa, .int nlz, .int nds, .int ndy, .int nga, .int npa, .ref nw0, .ref nw1, .ref nw2, .ref nw3, .ref nw4, .ref nw5, .ref nw6, .ref nw7])), (nw0, .inl (cI, 8, .inl nfw)), (nw1, .inl (cI, 8, .inl nfo)), (nw2, .inl (cI, 8, .inl nfr)), (nw3, .inl (cI, 8, .inl nfn)), (nw4, .inl (cI, 8, .inl nft)), (nw5, .inl (cI, 3, .inl nfk)), (nw6, .inl (cI, 3, .inl nfa)), (nw7, .inl (cI, 3, .inl nfb))]) 0 0 := by
  refine wm_z (cc := cX1_asked) (maxL := 4) (ret := (some .int)) (by decide) rfl (Nat.le_of_ble_eq_true rfl) ?_
  intro p e s m below meth c A ls hZ hAb hx hb hr hml hown hts hlocks hin hP hK hD hN hA hl hS
  have hown : s.vm.findClass RX1 = some m.cls := hown
  have hl : lv_has ls 4 [(0, .ref h), (1, .int w), (2, .int k), (3, .int 6)] := hl
  change W p l e ({ frames := 9, cells := 0, slots := 0, locals := 207 }) s m ([.ref h, .int w, .int k, .int 6] : List Value).toArray below meth c s.heap [] 0 0 (MQ below (va_Qi (fun (r : Int32) (u : Int32 × (Nat → Int32)) => (0 ≤ u.1.toInt ∧ u.1.toInt ≤ 16)) (fun u t => wb D A ((fun u => [(h, .inr (1, [.ref nw, .ref bo, .int u.1])), (bo, .inl (cI, 16, .inl u.2)), (nw, .inr (3, [.int nvi, .int nro, .int nwa, .int nlz, .int nds, .int ndy, .int nga, .int npa, .ref nw0, .ref nw1, .ref nw2, .ref nw3, .ref nw4, .ref nw5, .ref nw6, .ref nw7])), (nw0, .inl (cI, 8, .inl nfw)), (nw1, .inl (cI, 8, .inl nfo)), (nw2, .inl (cI, 8, .inl nfr)), (nw3, .inl (cI, 8, .inl nfn)), (nw4, .inl (cI, 8, .inl nft)), (nw5, .inl (cI, 3, .inl nfk)), (nw6, .inl (cI, 3, .inl nfa)), (nw7, .inl (cI, 3, .inl nfb))]) u) t) A) ([.ref h, .int w, .int k, .int 6] : List Value).toArray s 0 0 A) (F0 m 0 ls [])
  refine lv_aload_n hx hb dX1_asked_0 rfl (lv_at hl 0 rfl) ?_
  refine lv_aload_n hx hb dX1_asked_1 rfl (lv_at hl 0 rfl) ?_
  refine va_get (D := D) (ci := 1) (v := .ref nw) (C := RX1) (T := TX1) (N := 3) hx hb hts (fun _ h => List.mem_cons_of_mem _ (List.mem_append_left _ (List.mem_append_right _ h))) hown hK hP 0 rfl rfl 0 (by decide) (hts (.fieldLink RX1 19 "WinterWalk$Asks" "land" "LWinterWalk$Land;") (List.mem_of_getElem? (i := 1) rfl)) (fun _ h9 => h9) rfl dX1_asked_2 ?_
  refine va_get (D := D) (ci := 3) (v := .ref nw5) (C := RX4) (T := TX4) (N := 16) hx hb hts (fun _ h => List.mem_cons_of_mem _ (List.mem_append_right _ h)) hown hK hP 2 rfl rfl 13 (by decide) (hts (.fieldLink RX1 27 "WinterWalk$Land" "kinds" "[I") (List.mem_of_getElem? (i := 2) rfl)) (fun _ h9 => h9) rfl dX1_asked_5 ?_
  refine lv_iload_n hx hb dX1_asked_8 rfl (lv_at hl 1 rfl) ?_
  refine va_iald hx hb hK hP 8 0 rfl rfl (zi_in (by omega) (by omega)) dX1_asked_9 ?_
  refine lv_topi (fun x_1 ex_1 => ?_)
  clear ex_1
  refine lv_iload_n hx hb dX1_asked_10 rfl (lv_at hl 2 rfl) ?_
  have k_2 := (g_X1_bodyFor l D cI cB cQ z s.heap.size x_1 k)
  refine wc_i (WC := []) (WR := [(h, .inr (1, [.ref nw, .ref bo, .int tc])), (bo, .inl (cI, 16, .inl bf)), (nw, .inr (3, [.int nvi, .int nro, .int nwa, .int nlz, .int nds, .int ndy, .int nga, .int npa, .ref nw0, .ref nw1, .ref nw2, .ref nw3, .ref nw4, .ref nw5, .ref nw6, .ref nw7])), (nw0, .inl (cI, 8, .inl nfw)), (nw1, .inl (cI, 8, .inl nfo)), (nw2, .inl (cI, 8, .inl nfr)), (nw3, .inl (cI, 8, .inl nfn)), (nw4, .inl (cI, 8, .inl nft)), (nw5, .inl (cI, 3, .inl nfk)), (nw6, .inl (cI, 3, .inl nfa)), (nw7, .inl (cI, 3, .inl nfb))]) (va_runS (As := [.int x_1, .int k]) (rest := [.ref h]) ⟨hx, hb, hml, hown, hts⟩ k_2 (va_cwS 2 hts gX1_asked_X1_bodyFor rfl rfl rfl (by decide +kernel) ⟨Nat.le_of_ble_eq_true rfl, Nat.le_of_ble_eq_true rfl⟩) (wpz_S hZ hS hAb hP hK hD hN [] (by decide) rfl) rfl rfl hl.1 rfl (lv_room (Nat.le_of_ble_eq_true rfl)) dX1_asked_11 ⟨Nat.le_of_ble_eq_true rfl, Nat.le_of_ble_eq_true rfl⟩) hP hD hS hA [] [0, 1, 2, 3, 4, 5, 6, 7, 8, 9, 10] rfl rfl (by decide) (by decide) (fun r_2 u_2 H locs hw_2 hP hD hS => ?_)
  clear k_2
  have hP : va_P D kl [(h, .inr (1, [.ref nw, .ref bo, .int tc])), (bo, .inl (cI, 16, .inl bf)), (nw, .inr (3, [.int nvi, .int nro, .int nwa, .int nlz, .int nds, .int ndy, .int nga, .int npa, .ref nw0, .ref nw1, .ref nw2, .ref nw3, .ref nw4, .ref nw5, .ref nw6, .ref nw7])), (nw0, .inl (cI, 8, .inl nfw)), (nw1, .inl (cI, 8, .inl nfo)), (nw2, .inl (cI, 8, .inl nfr)), (nw3, .inl (cI, 8, .inl nfn)), (nw4, .inl (cI, 8, .inl nft)), (nw5, .inl (cI, 3, .inl nfk)), (nw6, .inl (cI, 3, .inl nfa)), (nw7, .inl (cI, 3, .inl nfb))] H := hP
  have hD : va_D A [(h, .inr (1, [.ref nw, .ref bo, .int tc])), (bo, .inl (cI, 16, .inl bf)), (nw, .inr (3, [.int nvi, .int nro, .int nwa, .int nlz, .int nds, .int ndy, .int nga, .int npa, .ref nw0, .ref nw1, .ref nw2, .ref nw3, .ref nw4, .ref nw5, .ref nw6, .ref nw7])), (nw0, .inl (cI, 8, .inl nfw)), (nw1, .inl (cI, 8, .inl nfo)), (nw2, .inl (cI, 8, .inl nfr)), (nw3, .inl (cI, 8, .inl nfn)), (nw4, .inl (cI, 8, .inl nft)), (nw5, .inl (cI, 3, .inl nfk)), (nw6, .inl (cI, 3, .inl nfa)), (nw7, .inl (cI, 3, .inl nfb))] := hD
  clear hw_2
  refine lv_iload_n hx hb dX1_asked_14 rfl (lv_at hl 1 rfl) ?_
  refine lv_iload_n hx hb dX1_asked_15 rfl (lv_at hl 3 rfl) ?_
  have k_3 := (g_X1_gives_6 l D cI cB cQ z H.size h nw bo nw0 nw1 nw2 nw3 nw4 nw5 nw6 nw7 tc nvi nro nwa nlz nds ndy nga npa r_2 w bf nfw nfo nfr nfn nft nfk nfa nfb nha (by omega) (by omega) (by omega) (by omega))
  refine wc_i (WC := [(h, .inr (1, [.ref nw, .ref bo, .int tc])), (bo, .inl (cI, 16, .inl bf)), (nw, .inr (3, [.int nvi, .int nro, .int nwa, .int nlz, .int nds, .int ndy, .int nga, .int npa, .ref nw0, .ref nw1, .ref nw2, .ref nw3, .ref nw4, .ref nw5, .ref nw6, .ref nw7])), (nw0, .inl (cI, 8, .inl nfw)), (nw1, .inl (cI, 8, .inl nfo)), (nw2, .inl (cI, 8, .inl nfr)), (nw3, .inl (cI, 8, .inl nfn)), (nw4, .inl (cI, 8, .inl nft)), (nw5, .inl (cI, 3, .inl nfk)), (nw6, .inl (cI, 3, .inl nfa)), (nw7, .inl (cI, 3, .inl nfb))]) (WR := []) (va_runV (As := [.int r_2, .int w, .int 6]) (rest := []) ⟨hx, hb, hml, hown, hts⟩ k_3 (cwV 3 hts gX1_asked_X1_gives rfl rfl rfl (by decide +kernel) ⟨Nat.le_of_ble_eq_true rfl, Nat.le_of_ble_eq_true rfl⟩) (wpz_V hZ hS hAb hP hK hD hN [0, 1, 2, 3, 4, 5, 6, 7, 8, 9, 10] (by decide) rfl (ci := 1) rfl rfl) rfl rfl hl.1 rfl (lv_room (Nat.le_of_ble_eq_true rfl)) dX1_asked_16 ⟨Nat.le_of_ble_eq_true rfl, Nat.le_of_ble_eq_true rfl⟩) hP hD hS hA [0, 1, 2, 3, 4, 5, 6, 7, 8, 9, 10] [] rfl rfl (by decide) (by decide) (fun r_3 u_3 H locs hw_3 hP hD hS => ?_)
  clear k_3
  obtain ⟨v3_0, v3_1⟩ := u_3
  have hP : va_P D kl [(h, .inr (1, [.ref nw, .ref bo, .int v3_0])), (bo, .inl (cI, 16, .inl v3_1)), (nw, .inr (3, [.int nvi, .int nro, .int nwa, .int nlz, .int nds, .int ndy, .int nga, .int npa, .ref nw0, .ref nw1, .ref nw2, .ref nw3, .ref nw4, .ref nw5, .ref nw6, .ref nw7])), (nw0, .inl (cI, 8, .inl nfw)), (nw1, .inl (cI, 8, .inl nfo)), (nw2, .inl (cI, 8, .inl nfr)), (nw3, .inl (cI, 8, .inl nfn)), (nw4, .inl (cI, 8, .inl nft)), (nw5, .inl (cI, 3, .inl nfk)), (nw6, .inl (cI, 3, .inl nfa)), (nw7, .inl (cI, 3, .inl nfb))] H := hP
  have hD : va_D A [(h, .inr (1, [.ref nw, .ref bo, .int v3_0])), (bo, .inl (cI, 16, .inl v3_1)), (nw, .inr (3, [.int nvi, .int nro, .int nwa, .int nlz, .int nds, .int ndy, .int nga, .int npa, .ref nw0, .ref nw1, .ref nw2, .ref nw3, .ref nw4, .ref nw5, .ref nw6, .ref nw7])), (nw0, .inl (cI, 8, .inl nfw)), (nw1, .inl (cI, 8, .inl nfo)), (nw2, .inl (cI, 8, .inl nfr)), (nw3, .inl (cI, 8, .inl nfn)), (nw4, .inl (cI, 8, .inl nft)), (nw5, .inl (cI, 3, .inl nfk)), (nw6, .inl (cI, 3, .inl nfa)), (nw7, .inl (cI, 3, .inl nfb))] := hD
  have c3_0 := hw_3
  have c3_0 : 0 ≤ v3_0.toInt ∧ v3_0.toInt ≤ 16 := c3_0
  exact wr_i (v := r_3) hx hb hr hlocks hS (v3_0, v3_1) (by exact show 0 ≤ (v3_0 : Int32).toInt ∧ (v3_0 : Int32).toInt ≤ 16 from by omega) (hP.sub [0, 1, 2, 3, 4, 5, 6, 7, 8, 9, 10] rfl) (hD.sub [0, 1, 2, 3, 4, 5, 6, 7, 8, 9, 10] (by decide) rfl) dX1_asked_19
set_option maxHeartbeats 4000000 in
set_option maxRecDepth 100000 in
theorem g_X1_gives_5 (l : Launch) (D : va_G) (cI cB cQ : ClassId) (z : ZT) (sz : Nat) (h : Nat) (nw : Nat) (bo : Nat) (nw0 : Nat) (nw1 : Nat) (nw2 : Nat) (nw3 : Nat) (nw4 : Nat) (nw5 : Nat) (nw6 : Nat) (nw7 : Nat) (tc : Int32) (nvi : Int32) (nro : Int32) (nwa : Int32) (nlz : Int32) (nds : Int32) (ndy : Int32) (nga : Int32) (npa : Int32) (k : Int32) (w : Int32) (bf : Nat → Int32) (nfw : Nat → Int32) (nfo : Nat → Int32) (nfr : Nat → Int32) (nfn : Nat → Int32) (nft : Nat → Int32) (nfk : Nat → Int32) (nfa : Nat → Int32) (nfb : Nat → Int32) (nha : ∀ j, j < 3 → 0 ≤ (nfa j).toInt ∧ (nfa j).toInt ≤ 7) (h_tc : 0 ≤ tc.toInt ∧ tc.toInt ≤ 16) (h_nvi : 0 ≤ nvi.toInt ∧ nvi.toInt ≤ 8) (h_nwa : 0 ≤ nwa.toInt ∧ nwa.toInt ≤ 3) (h_w : 0 ≤ w.toInt ∧ w.toInt ≤ 2) : miz l yX1_gives wsX1_gives ({ frames := 10, cells := 0, slots := 0, locals := 230 }) z D cI cB cQ [.ref h, .int k, .int w, .int 5] sz [(h, .inr (1, [.ref nw, .ref bo, .int tc])), (bo, .inl (cI, 16, .inl bf)), (nw, .inr (3, [.int nvi, .int nro, .int nwa, .int nlz, .int nds, .int ndy, .int nga, .int npa, .ref nw0, .ref nw1, .ref nw2, .ref nw3, .ref nw4, .ref nw5, .ref nw6, .ref nw7])), (nw0, .inl (cI, 8, .inl nfw)), (nw1, .inl (cI, 8, .inl nfo)), (nw2, .inl (cI, 8, .inl nfr)), (nw3, .inl (cI, 8, .inl nfn)), (nw4, .inl (cI, 8, .inl nft)), (nw5, .inl (cI, 3, .inl nfk)), (nw6, .inl (cI, 3, .inl nfa)), (nw7, .inl (cI, 3, .inl nfb))] (fun (r : Int32) (u : Int32 × (Nat → Int32)) => (0 ≤ u.1.toInt ∧ u.1.toInt ≤ 16)) (fun u => [(h, .inr (1, [.ref nw, .ref bo, .int u.1])), (bo, .inl (cI, 16, .inl u.2)), (nw, .inr (3, [.int nvi, .int nro, .int nwa, .int nlz, .int nds, .int ndy, .int nga, .int npa, .ref nw0, .ref nw1, .ref nw2, .ref nw3, .ref nw4, .ref nw5, .ref nw6, .ref nw7])), (nw0, .inl (cI, 8, .inl nfw)), (nw1, .inl (cI, 8, .inl nfo)), (nw2, .inl (cI, 8, .inl nfr)), (nw3, .inl (cI, 8, .inl nfn)), (nw4, .inl (cI, 8, .inl nft)), (nw5, .inl (cI, 3, .inl nfk)), (nw6, .inl (cI, 3, .inl nfa)), (nw7, .inl (cI, 3, .inl nfb))]) 0 0 := by
  refine wm_z (cc := cX1_gives) (maxL := 5) (ret := (some .int)) (by decide) rfl (Nat.le_of_ble_eq_true rfl) ?_
  intro p e s m below meth c A ls hZ hAb hx hb hr hml hown hts hlocks hin hP hK hD hN hA hl hS
  have hown : s.vm.findClass RX1 = some m.cls := hown
  have hl : lv_has ls 5 [(0, .ref h), (1, .int k), (2, .int w), (3, .int 5)] := hl
  change W p l e ({ frames := 10, cells := 0, slots := 0, locals := 230 }) s m ([.ref h, .int k, .int w, .int 5] : List Value).toArray below meth c s.heap [] 0 0 (MQ below (va_Qi (fun (r : Int32) (u : Int32 × (Nat → Int32)) => (0 ≤ u.1.toInt ∧ u.1.toInt ≤ 16)) (fun u t => wb D A ((fun u => [(h, .inr (1, [.ref nw, .ref bo, .int u.1])), (bo, .inl (cI, 16, .inl u.2)), (nw, .inr (3, [.int nvi, .int nro, .int nwa, .int nlz, .int nds, .int ndy, .int nga, .int npa, .ref nw0, .ref nw1, .ref nw2, .ref nw3, .ref nw4, .ref nw5, .ref nw6, .ref nw7])), (nw0, .inl (cI, 8, .inl nfw)), (nw1, .inl (cI, 8, .inl nfo)), (nw2, .inl (cI, 8, .inl nfr)), (nw3, .inl (cI, 8, .inl nfn)), (nw4, .inl (cI, 8, .inl nft)), (nw5, .inl (cI, 3, .inl nfk)), (nw6, .inl (cI, 3, .inl nfa)), (nw7, .inl (cI, 3, .inl nfb))]) u) t) A) ([.ref h, .int k, .int w, .int 5] : List Value).toArray s 0 0 A) (F0 m 0 ls [])
  refine lv_iload_n hx hb dX1_gives_0 rfl (lv_at hl 3 rfl) ?_
  refine lv_bipush (v := 8) hx hb dX1_gives_1 (by decide) ?_
  refine lv_icmp_le (tgt := 8) hx hb dX1_gives_3 (by decide) (fun _ => ?_) (fun c9 => absurd (by decide) c9)
  refine lv_aload_n hx hb dX1_gives_8 rfl (lv_at hl 0 rfl) ?_
  refine lv_iload_n hx hb dX1_gives_9 rfl (lv_at hl 1 rfl) ?_
  have k_1 := (g_X1_leaveTrace l D cI cB cQ s.heap.size h nw bo tc k bf (by omega))
  refine wc_v (WC := [(h, .inr (1, [.ref nw, .ref bo, .int tc])), (bo, .inl (cI, 16, .inl bf))]) (WR := [(nw, .inr (3, [.int nvi, .int nro, .int nwa, .int nlz, .int nds, .int ndy, .int nga, .int npa, .ref nw0, .ref nw1, .ref nw2, .ref nw3, .ref nw4, .ref nw5, .ref nw6, .ref nw7])), (nw0, .inl (cI, 8, .inl nfw)), (nw1, .inl (cI, 8, .inl nfo)), (nw2, .inl (cI, 8, .inl nfr)), (nw3, .inl (cI, 8, .inl nfn)), (nw4, .inl (cI, 8, .inl nft)), (nw5, .inl (cI, 3, .inl nfk)), (nw6, .inl (cI, 3, .inl nfa)), (nw7, .inl (cI, 3, .inl nfb))]) (va_runV (As := [.int k]) (rest := []) ⟨hx, hb, hml, hown, hts⟩ k_1 (cwV 1 hts gX1_gives_X1_leaveTrace rfl rfl rfl (by decide +kernel) ⟨Nat.le_of_ble_eq_true rfl, Nat.le_of_ble_eq_true rfl⟩) (wp_V hP hK hD hN [0, 1] (by decide) rfl (ci := 1) rfl rfl) rfl rfl hl.1 rfl (lv_room (Nat.le_of_ble_eq_true rfl)) dX1_gives_10 ⟨Nat.le_of_ble_eq_true rfl, Nat.le_of_ble_eq_true rfl⟩) hP hD hS hA [0, 1] [2, 3, 4, 5, 6, 7, 8, 9, 10] rfl rfl (by decide) (by decide) (fun u_1 H locs hw_1 hP hD hS => ?_)
  clear k_1
  obtain ⟨v1_0, v1_1⟩ := u_1
  have hP : va_P D kl [(nw, .inr (3, [.int nvi, .int nro, .int nwa, .int nlz, .int nds, .int ndy, .int nga, .int npa, .ref nw0, .ref nw1, .ref nw2, .ref nw3, .ref nw4, .ref nw5, .ref nw6, .ref nw7])), (nw0, .inl (cI, 8, .inl nfw)), (nw1, .inl (cI, 8, .inl nfo)), (nw2, .inl (cI, 8, .inl nfr)), (nw3, .inl (cI, 8, .inl nfn)), (nw4, .inl (cI, 8, .inl nft)), (nw5, .inl (cI, 3, .inl nfk)), (nw6, .inl (cI, 3, .inl nfa)), (nw7, .inl (cI, 3, .inl nfb)), (h, .inr (1, [.ref nw, .ref bo, .int v1_0])), (bo, .inl (cI, 16, .inl v1_1))] H := hP
  have hD : va_D A [(nw, .inr (3, [.int nvi, .int nro, .int nwa, .int nlz, .int nds, .int ndy, .int nga, .int npa, .ref nw0, .ref nw1, .ref nw2, .ref nw3, .ref nw4, .ref nw5, .ref nw6, .ref nw7])), (nw0, .inl (cI, 8, .inl nfw)), (nw1, .inl (cI, 8, .inl nfo)), (nw2, .inl (cI, 8, .inl nfr)), (nw3, .inl (cI, 8, .inl nfn)), (nw4, .inl (cI, 8, .inl nft)), (nw5, .inl (cI, 3, .inl nfk)), (nw6, .inl (cI, 3, .inl nfa)), (nw7, .inl (cI, 3, .inl nfb)), (h, .inr (1, [.ref nw, .ref bo, .int v1_0])), (bo, .inl (cI, 16, .inl v1_1))] := hD
  have c1_0 := hw_1
  have c1_0 : 0 ≤ v1_0.toInt ∧ v1_0.toInt ≤ 16 := c1_0
  refine lv_iload_n hx hb dX1_gives_13 rfl (lv_at hl 3 rfl) ?_
  refine lv_iconst (v := 1) hx hb dX1_gives_14 (by decide) ?_
  refine lv_iadd hx hb dX1_gives_15 ?_
  refine lv_topi (fun x_2 ex_2 => ?_)
  obtain rfl : x_2 = 6 := ex_2.trans (by decide)
  refine lv_istore (lv' := [(4, .int 6), (0, .ref h), (1, .int k), (2, .int w), (3, .int 5)]) hx hb dX1_gives_16 hl (by decide) rfl (fun ls hl => ?_)
  refine lv_iload_n hx hb dX1_gives_18 rfl (lv_at hl 2 rfl) ?_
  by_cases f_3 : k.toInt < 10 ∨ 24 < k.toInt
  · refine lv_tableOut (tgt := 232) hx hb dX1_gives_19 f_3 (by decide) ?_
    refine lv_iconst (v := 0) hx hb dX1_gives_232 (by decide) ?_
    exact wr_i (v := 0) hx hb hr hlocks hS (v1_0, v1_1) (by exact show 0 ≤ (v1_0 : Int32).toInt ∧ (v1_0 : Int32).toInt ≤ 16 from by omega) (hP.sub [9, 10, 0, 1, 2, 3, 4, 5, 6, 7, 8] rfl) (hD.sub [9, 10, 0, 1, 2, 3, 4, 5, 6, 7, 8] (by decide) rfl) dX1_gives_233
  · rcases (show k.toInt = 10 ∨ k.toInt = 11 ∨ k.toInt = 12 ∨ k.toInt = 13 ∨ k.toInt = 14 ∨ k.toInt = 15 ∨ k.toInt = 16 ∨ k.toInt = 17 ∨ k.toInt = 18 ∨ k.toInt = 19 ∨ k.toInt = 20 ∨ k.toInt = 21 ∨ k.toInt = 22 ∨ k.toInt = 23 ∨ k.toInt = 24 by omega) with g_3 | g_3 | g_3 | g_3 | g_3 | g_3 | g_3 | g_3 | g_3 | g_3 | g_3 | g_3 | g_3 | g_3 | g_3
    · refine lv_tableIn (off := 73) (tgt := 92) hx hb dX1_gives_19 (by omega) (by omega) (by rw [g_3]; rfl) (by decide) ?_
      refine lv_aload_n hx hb dX1_gives_92 rfl (lv_at hl 1 rfl) ?_
      refine va_get (D := D) (ci := 1) (v := .ref nw) (C := RX1) (T := TX1) (N := 3) hx hb hts (fun _ h => List.mem_cons_of_mem _ (List.mem_append_left _ (List.mem_append_right _ h))) hown hK hP 9 rfl rfl 0 (by decide) (hts (.fieldLink RX1 19 "WinterWalk$Asks" "land" "LWinterWalk$Land;") (List.mem_of_getElem? (i := 1) rfl)) (fun _ h9 => h9) rfl dX1_gives_93 ?_
      refine va_get (D := D) (ci := 3) (v := .ref nw6) (C := RX4) (T := TX4) (N := 16) hx hb hts (fun _ h => List.mem_cons_of_mem _ (List.mem_append_right _ h)) hown hK hP 0 rfl rfl 14 (by decide) (hts (.fieldLink RX1 59 "WinterWalk$Land" "at" "[I") (List.mem_of_getElem? (i := 2) rfl)) (fun _ h9 => h9) rfl dX1_gives_96 ?_
      refine lv_iload_n hx hb dX1_gives_99 rfl (lv_at hl 3 rfl) ?_
      refine va_iald hx hb hK hP 7 0 rfl rfl (zi_in (by omega) (by omega)) dX1_gives_100 ?_
      refine lv_topi (fun x_4 ex_4 => ?_)
      have f_4 : 0 ≤ x_4.toInt ∧ x_4.toInt ≤ 7 := by rw [ex_4]; exact nha _ (zi_cl (by omega) (by omega))
      clear ex_4
      exact wr_i (v := x_4) hx hb hr hlocks hS (v1_0, v1_1) (by exact show 0 ≤ (v1_0 : Int32).toInt ∧ (v1_0 : Int32).toInt ≤ 16 from by omega) (hP.sub [9, 10, 0, 1, 2, 3, 4, 5, 6, 7, 8] rfl) (hD.sub [9, 10, 0, 1, 2, 3, 4, 5, 6, 7, 8] (by decide) rfl) dX1_gives_101
    · refine lv_tableIn (off := 83) (tgt := 102) hx hb dX1_gives_19 (by omega) (by omega) (by rw [g_3]; rfl) (by decide) ?_
      refine lv_aload_n hx hb dX1_gives_102 rfl (lv_at hl 1 rfl) ?_
      refine lv_bipush (v := 10) hx hb dX1_gives_103 (by decide) ?_
      refine lv_iload_n hx hb dX1_gives_105 rfl (lv_at hl 3 rfl) ?_
      refine lv_iload hx hb dX1_gives_106 (lv_at hl 0 rfl) ?_
      have k_5 := (g_X1_gives_6 l D cI cB cQ z H.size h nw bo nw0 nw1 nw2 nw3 nw4 nw5 nw6 nw7 v1_0 nvi nro nwa nlz nds ndy nga npa 10 w v1_1 nfw nfo nfr nfn nft nfk nfa nfb nha (by omega) (by omega) (by omega) (by omega))
      refine wc_i (WC := [(h, .inr (1, [.ref nw, .ref bo, .int v1_0])), (bo, .inl (cI, 16, .inl v1_1)), (nw, .inr (3, [.int nvi, .int nro, .int nwa, .int nlz, .int nds, .int ndy, .int nga, .int npa, .ref nw0, .ref nw1, .ref nw2, .ref nw3, .ref nw4, .ref nw5, .ref nw6, .ref nw7])), (nw0, .inl (cI, 8, .inl nfw)), (nw1, .inl (cI, 8, .inl nfo)), (nw2, .inl (cI, 8, .inl nfr)), (nw3, .inl (cI, 8, .inl nfn)), (nw4, .inl (cI, 8, .inl nft)), (nw5, .inl (cI, 3, .inl nfk)), (nw6, .inl (cI, 3, .inl nfa)), (nw7, .inl (cI, 3, .inl nfb))]) (WR := []) (va_runV (As := [.int 10, .int w, .int 6]) (rest := []) ⟨hx, hb, hml, hown, hts⟩ k_5 (cwV 3 hts gX1_gives_X1_gives rfl rfl rfl (by decide +kernel) ⟨Nat.le_of_ble_eq_true rfl, Nat.le_of_ble_eq_true rfl⟩) (wpz_V hZ hS hAb hP hK hD hN [9, 10, 0, 1, 2, 3, 4, 5, 6, 7, 8] (by decide) rfl (ci := 1) rfl rfl) rfl rfl hl.1 rfl (lv_room (Nat.le_of_ble_eq_true rfl)) dX1_gives_108 ⟨Nat.le_of_ble_eq_true rfl, Nat.le_of_ble_eq_true rfl⟩) hP hD hS hA [9, 10, 0, 1, 2, 3, 4, 5, 6, 7, 8] [] rfl rfl (by decide) (by decide) (fun r_5 u_5 H locs hw_5 hP hD hS => ?_)
      clear k_5
      obtain ⟨v5_0, v5_1⟩ := u_5
      have hP : va_P D kl [(h, .inr (1, [.ref nw, .ref bo, .int v5_0])), (bo, .inl (cI, 16, .inl v5_1)), (nw, .inr (3, [.int nvi, .int nro, .int nwa, .int nlz, .int nds, .int ndy, .int nga, .int npa, .ref nw0, .ref nw1, .ref nw2, .ref nw3, .ref nw4, .ref nw5, .ref nw6, .ref nw7])), (nw0, .inl (cI, 8, .inl nfw)), (nw1, .inl (cI, 8, .inl nfo)), (nw2, .inl (cI, 8, .inl nfr)), (nw3, .inl (cI, 8, .inl nfn)), (nw4, .inl (cI, 8, .inl nft)), (nw5, .inl (cI, 3, .inl nfk)), (nw6, .inl (cI, 3, .inl nfa)), (nw7, .inl (cI, 3, .inl nfb))] H := hP
      have hD : va_D A [(h, .inr (1, [.ref nw, .ref bo, .int v5_0])), (bo, .inl (cI, 16, .inl v5_1)), (nw, .inr (3, [.int nvi, .int nro, .int nwa, .int nlz, .int nds, .int ndy, .int nga, .int npa, .ref nw0, .ref nw1, .ref nw2, .ref nw3, .ref nw4, .ref nw5, .ref nw6, .ref nw7])), (nw0, .inl (cI, 8, .inl nfw)), (nw1, .inl (cI, 8, .inl nfo)), (nw2, .inl (cI, 8, .inl nfr)), (nw3, .inl (cI, 8, .inl nfn)), (nw4, .inl (cI, 8, .inl nft)), (nw5, .inl (cI, 3, .inl nfk)), (nw6, .inl (cI, 3, .inl nfa)), (nw7, .inl (cI, 3, .inl nfb))] := hD
      have c5_0 := hw_5
      have c5_0 : 0 ≤ v5_0.toInt ∧ v5_0.toInt ≤ 16 := c5_0
      refine lv_aload_n hx hb dX1_gives_111 rfl (lv_at hl 1 rfl) ?_
      refine lv_iload_n hx hb dX1_gives_112 rfl (lv_at hl 3 rfl) ?_
      refine lv_iconst (v := 1) hx hb dX1_gives_113 (by decide) ?_
      refine lv_iload hx hb dX1_gives_114 (lv_at hl 0 rfl) ?_
      have k_6 := (g_X1_asked_6 l D cI cB cQ z H.size h nw bo nw0 nw1 nw2 nw3 nw4 nw5 nw6 nw7 v5_0 nvi nro nwa nlz nds ndy nga npa w 1 v5_1 nfw nfo nfr nfn nft nfk nfa nfb nha (by omega) (by omega) (by omega) (by omega))
      refine wc_i (WC := [(h, .inr (1, [.ref nw, .ref bo, .int v5_0])), (bo, .inl (cI, 16, .inl v5_1)), (nw, .inr (3, [.int nvi, .int nro, .int nwa, .int nlz, .int nds, .int ndy, .int nga, .int npa, .ref nw0, .ref nw1, .ref nw2, .ref nw3, .ref nw4, .ref nw5, .ref nw6, .ref nw7])), (nw0, .inl (cI, 8, .inl nfw)), (nw1, .inl (cI, 8, .inl nfo)), (nw2, .inl (cI, 8, .inl nfr)), (nw3, .inl (cI, 8, .inl nfn)), (nw4, .inl (cI, 8, .inl nft)), (nw5, .inl (cI, 3, .inl nfk)), (nw6, .inl (cI, 3, .inl nfa)), (nw7, .inl (cI, 3, .inl nfb))]) (WR := []) (va_runV (As := [.int w, .int 1, .int 6]) (rest := [.int r_5]) ⟨hx, hb, hml, hown, hts⟩ k_6 (cwV 3 hts gX1_gives_X1_asked rfl rfl rfl (by decide +kernel) ⟨Nat.le_of_ble_eq_true rfl, Nat.le_of_ble_eq_true rfl⟩) (wpz_V hZ hS hAb hP hK hD hN [0, 1, 2, 3, 4, 5, 6, 7, 8, 9, 10] (by decide) rfl (ci := 1) rfl rfl) rfl rfl hl.1 rfl (lv_room (Nat.le_of_ble_eq_true rfl)) dX1_gives_116 ⟨Nat.le_of_ble_eq_true rfl, Nat.le_of_ble_eq_true rfl⟩) hP hD hS hA [0, 1, 2, 3, 4, 5, 6, 7, 8, 9, 10] [] rfl rfl (by decide) (by decide) (fun r_6 u_6 H locs hw_6 hP hD hS => ?_)
      clear k_6
      obtain ⟨v6_0, v6_1⟩ := u_6
      have hP : va_P D kl [(h, .inr (1, [.ref nw, .ref bo, .int v6_0])), (bo, .inl (cI, 16, .inl v6_1)), (nw, .inr (3, [.int nvi, .int nro, .int nwa, .int nlz, .int nds, .int ndy, .int nga, .int npa, .ref nw0, .ref nw1, .ref nw2, .ref nw3, .ref nw4, .ref nw5, .ref nw6, .ref nw7])), (nw0, .inl (cI, 8, .inl nfw)), (nw1, .inl (cI, 8, .inl nfo)), (nw2, .inl (cI, 8, .inl nfr)), (nw3, .inl (cI, 8, .inl nfn)), (nw4, .inl (cI, 8, .inl nft)), (nw5, .inl (cI, 3, .inl nfk)), (nw6, .inl (cI, 3, .inl nfa)), (nw7, .inl (cI, 3, .inl nfb))] H := hP
      have hD : va_D A [(h, .inr (1, [.ref nw, .ref bo, .int v6_0])), (bo, .inl (cI, 16, .inl v6_1)), (nw, .inr (3, [.int nvi, .int nro, .int nwa, .int nlz, .int nds, .int ndy, .int nga, .int npa, .ref nw0, .ref nw1, .ref nw2, .ref nw3, .ref nw4, .ref nw5, .ref nw6, .ref nw7])), (nw0, .inl (cI, 8, .inl nfw)), (nw1, .inl (cI, 8, .inl nfo)), (nw2, .inl (cI, 8, .inl nfr)), (nw3, .inl (cI, 8, .inl nfn)), (nw4, .inl (cI, 8, .inl nft)), (nw5, .inl (cI, 3, .inl nfk)), (nw6, .inl (cI, 3, .inl nfa)), (nw7, .inl (cI, 3, .inl nfb))] := hD
      have c6_0 := hw_6
      have c6_0 : 0 ≤ v6_0.toInt ∧ v6_0.toInt ≤ 16 := c6_0
      refine lv_iadd hx hb dX1_gives_119 ?_
      refine lv_topi (fun x_7 ex_7 => ?_)
      clear ex_7
      exact wr_i (v := x_7) hx hb hr hlocks hS (v6_0, v6_1) (by exact show 0 ≤ (v6_0 : Int32).toInt ∧ (v6_0 : Int32).toInt ≤ 16 from by omega) (hP.sub [0, 1, 2, 3, 4, 5, 6, 7, 8, 9, 10] rfl) (hD.sub [0, 1, 2, 3, 4, 5, 6, 7, 8, 9, 10] (by decide) rfl) dX1_gives_120
    · refine lv_tableIn (off := 102) (tgt := 121) hx hb dX1_gives_19 (by omega) (by omega) (by rw [g_3]; rfl) (by decide) ?_
      refine lv_aload_n hx hb dX1_gives_121 rfl (lv_at hl 1 rfl) ?_
      refine lv_bipush (v := 11) hx hb dX1_gives_122 (by decide) ?_
      refine lv_iload_n hx hb dX1_gives_124 rfl (lv_at hl 3 rfl) ?_
      refine lv_iload hx hb dX1_gives_125 (lv_at hl 0 rfl) ?_
      have k_8 := (g_X1_gives_6 l D cI cB cQ z H.size h nw bo nw0 nw1 nw2 nw3 nw4 nw5 nw6 nw7 v1_0 nvi nro nwa nlz nds ndy nga npa 11 w v1_1 nfw nfo nfr nfn nft nfk nfa nfb nha (by omega) (by omega) (by omega) (by omega))
      refine wc_i (WC := [(h, .inr (1, [.ref nw, .ref bo, .int v1_0])), (bo, .inl (cI, 16, .inl v1_1)), (nw, .inr (3, [.int nvi, .int nro, .int nwa, .int nlz, .int nds, .int ndy, .int nga, .int npa, .ref nw0, .ref nw1, .ref nw2, .ref nw3, .ref nw4, .ref nw5, .ref nw6, .ref nw7])), (nw0, .inl (cI, 8, .inl nfw)), (nw1, .inl (cI, 8, .inl nfo)), (nw2, .inl (cI, 8, .inl nfr)), (nw3, .inl (cI, 8, .inl nfn)), (nw4, .inl (cI, 8, .inl nft)), (nw5, .inl (cI, 3, .inl nfk)), (nw6, .inl (cI, 3, .inl nfa)), (nw7, .inl (cI, 3, .inl nfb))]) (WR := []) (va_runV (As := [.int 11, .int w, .int 6]) (rest := []) ⟨hx, hb, hml, hown, hts⟩ k_8 (cwV 3 hts gX1_gives_X1_gives rfl rfl rfl (by decide +kernel) ⟨Nat.le_of_ble_eq_true rfl, Nat.le_of_ble_eq_true rfl⟩) (wpz_V hZ hS hAb hP hK hD hN [9, 10, 0, 1, 2, 3, 4, 5, 6, 7, 8] (by decide) rfl (ci := 1) rfl rfl) rfl rfl hl.1 rfl (lv_room (Nat.le_of_ble_eq_true rfl)) dX1_gives_127 ⟨Nat.le_of_ble_eq_true rfl, Nat.le_of_ble_eq_true rfl⟩) hP hD hS hA [9, 10, 0, 1, 2, 3, 4, 5, 6, 7, 8] [] rfl rfl (by decide) (by decide) (fun r_8 u_8 H locs hw_8 hP hD hS => ?_)
      clear k_8
      obtain ⟨v8_0, v8_1⟩ := u_8
      have hP : va_P D kl [(h, .inr (1, [.ref nw, .ref bo, .int v8_0])), (bo, .inl (cI, 16, .inl v8_1)), (nw, .inr (3, [.int nvi, .int nro, .int nwa, .int nlz, .int nds, .int ndy, .int nga, .int npa, .ref nw0, .ref nw1, .ref nw2, .ref nw3, .ref nw4, .ref nw5, .ref nw6, .ref nw7])), (nw0, .inl (cI, 8, .inl nfw)), (nw1, .inl (cI, 8, .inl nfo)), (nw2, .inl (cI, 8, .inl nfr)), (nw3, .inl (cI, 8, .inl nfn)), (nw4, .inl (cI, 8, .inl nft)), (nw5, .inl (cI, 3, .inl nfk)), (nw6, .inl (cI, 3, .inl nfa)), (nw7, .inl (cI, 3, .inl nfb))] H := hP
      have hD : va_D A [(h, .inr (1, [.ref nw, .ref bo, .int v8_0])), (bo, .inl (cI, 16, .inl v8_1)), (nw, .inr (3, [.int nvi, .int nro, .int nwa, .int nlz, .int nds, .int ndy, .int nga, .int npa, .ref nw0, .ref nw1, .ref nw2, .ref nw3, .ref nw4, .ref nw5, .ref nw6, .ref nw7])), (nw0, .inl (cI, 8, .inl nfw)), (nw1, .inl (cI, 8, .inl nfo)), (nw2, .inl (cI, 8, .inl nfr)), (nw3, .inl (cI, 8, .inl nfn)), (nw4, .inl (cI, 8, .inl nft)), (nw5, .inl (cI, 3, .inl nfk)), (nw6, .inl (cI, 3, .inl nfa)), (nw7, .inl (cI, 3, .inl nfb))] := hD
      have c8_0 := hw_8
      have c8_0 : 0 ≤ v8_0.toInt ∧ v8_0.toInt ≤ 16 := c8_0
      refine lv_ineg hx hb dX1_gives_130 ?_
      refine lv_topi (fun x_9 ex_9 => ?_)
      clear ex_9
      exact wr_i (v := x_9) hx hb hr hlocks hS (v8_0, v8_1) (by exact show 0 ≤ (v8_0 : Int32).toInt ∧ (v8_0 : Int32).toInt ≤ 16 from by omega) (hP.sub [0, 1, 2, 3, 4, 5, 6, 7, 8, 9, 10] rfl) (hD.sub [0, 1, 2, 3, 4, 5, 6, 7, 8, 9, 10] (by decide) rfl) dX1_gives_131
    · refine lv_tableIn (off := 113) (tgt := 132) hx hb dX1_gives_19 (by omega) (by omega) (by rw [g_3]; rfl) (by decide) ?_
      refine lv_aload_n hx hb dX1_gives_132 rfl (lv_at hl 1 rfl) ?_
      refine lv_bipush (v := 10) hx hb dX1_gives_133 (by decide) ?_
      refine lv_iload_n hx hb dX1_gives_135 rfl (lv_at hl 3 rfl) ?_
      refine lv_iload hx hb dX1_gives_136 (lv_at hl 0 rfl) ?_
      have k_10 := (g_X1_gives_6 l D cI cB cQ z H.size h nw bo nw0 nw1 nw2 nw3 nw4 nw5 nw6 nw7 v1_0 nvi nro nwa nlz nds ndy nga npa 10 w v1_1 nfw nfo nfr nfn nft nfk nfa nfb nha (by omega) (by omega) (by omega) (by omega))
      refine wc_i (WC := [(h, .inr (1, [.ref nw, .ref bo, .int v1_0])), (bo, .inl (cI, 16, .inl v1_1)), (nw, .inr (3, [.int nvi, .int nro, .int nwa, .int nlz, .int nds, .int ndy, .int nga, .int npa, .ref nw0, .ref nw1, .ref nw2, .ref nw3, .ref nw4, .ref nw5, .ref nw6, .ref nw7])), (nw0, .inl (cI, 8, .inl nfw)), (nw1, .inl (cI, 8, .inl nfo)), (nw2, .inl (cI, 8, .inl nfr)), (nw3, .inl (cI, 8, .inl nfn)), (nw4, .inl (cI, 8, .inl nft)), (nw5, .inl (cI, 3, .inl nfk)), (nw6, .inl (cI, 3, .inl nfa)), (nw7, .inl (cI, 3, .inl nfb))]) (WR := []) (va_runV (As := [.int 10, .int w, .int 6]) (rest := []) ⟨hx, hb, hml, hown, hts⟩ k_10 (cwV 3 hts gX1_gives_X1_gives rfl rfl rfl (by decide +kernel) ⟨Nat.le_of_ble_eq_true rfl, Nat.le_of_ble_eq_true rfl⟩) (wpz_V hZ hS hAb hP hK hD hN [9, 10, 0, 1, 2, 3, 4, 5, 6, 7, 8] (by decide) rfl (ci := 1) rfl rfl) rfl rfl hl.1 rfl (lv_room (Nat.le_of_ble_eq_true rfl)) dX1_gives_138 ⟨Nat.le_of_ble_eq_true rfl, Nat.le_of_ble_eq_true rfl⟩) hP hD hS hA [9, 10, 0, 1, 2, 3, 4, 5, 6, 7, 8] [] rfl rfl (by decide) (by decide) (fun r_10 u_10 H locs hw_10 hP hD hS => ?_)
      clear k_10
      obtain ⟨v10_0, v10_1⟩ := u_10
      have hP : va_P D kl [(h, .inr (1, [.ref nw, .ref bo, .int v10_0])), (bo, .inl (cI, 16, .inl v10_1)), (nw, .inr (3, [.int nvi, .int nro, .int nwa, .int nlz, .int nds, .int ndy, .int nga, .int npa, .ref nw0, .ref nw1, .ref nw2, .ref nw3, .ref nw4, .ref nw5, .ref nw6, .ref nw7])), (nw0, .inl (cI, 8, .inl nfw)), (nw1, .inl (cI, 8, .inl nfo)), (nw2, .inl (cI, 8, .inl nfr)), (nw3, .inl (cI, 8, .inl nfn)), (nw4, .inl (cI, 8, .inl nft)), (nw5, .inl (cI, 3, .inl nfk)), (nw6, .inl (cI, 3, .inl nfa)), (nw7, .inl (cI, 3, .inl nfb))] H := hP
      have hD : va_D A [(h, .inr (1, [.ref nw, .ref bo, .int v10_0])), (bo, .inl (cI, 16, .inl v10_1)), (nw, .inr (3, [.int nvi, .int nro, .int nwa, .int nlz, .int nds, .int ndy, .int nga, .int npa, .ref nw0, .ref nw1, .ref nw2, .ref nw3, .ref nw4, .ref nw5, .ref nw6, .ref nw7])), (nw0, .inl (cI, 8, .inl nfw)), (nw1, .inl (cI, 8, .inl nfo)), (nw2, .inl (cI, 8, .inl nfr)), (nw3, .inl (cI, 8, .inl nfn)), (nw4, .inl (cI, 8, .inl nft)), (nw5, .inl (cI, 3, .inl nfk)), (nw6, .inl (cI, 3, .inl nfa)), (nw7, .inl (cI, 3, .inl nfb))] := hD
      have c10_0 := hw_10
      have c10_0 : 0 ≤ v10_0.toInt ∧ v10_0.toInt ≤ 16 := c10_0
      refine lv_bipush (v := 100) hx hb dX1_gives_141 (by decide) ?_
      refine lv_isub hx hb dX1_gives_143 ?_
      refine lv_topi (fun x_11 ex_11 => ?_)
      clear ex_11
      exact wr_i (v := x_11) hx hb hr hlocks hS (v10_0, v10_1) (by exact show 0 ≤ (v10_0 : Int32).toInt ∧ (v10_0 : Int32).toInt ≤ 16 from by omega) (hP.sub [0, 1, 2, 3, 4, 5, 6, 7, 8, 9, 10] rfl) (hD.sub [0, 1, 2, 3, 4, 5, 6, 7, 8, 9, 10] (by decide) rfl) dX1_gives_144
    · refine lv_tableIn (off := 126) (tgt := 145) hx hb dX1_gives_19 (by omega) (by omega) (by rw [g_3]; rfl) (by decide) ?_
      refine lv_iconst (v := 2) hx hb dX1_gives_145 (by decide) ?_
      refine lv_aload_n hx hb dX1_gives_146 rfl (lv_at hl 1 rfl) ?_
      refine lv_bipush (v := 13) hx hb dX1_gives_147 (by decide) ?_
      refine lv_iload_n hx hb dX1_gives_149 rfl (lv_at hl 3 rfl) ?_
      refine lv_iload hx hb dX1_gives_150 (lv_at hl 0 rfl) ?_
      have k_12 := (g_X1_gives_6 l D cI cB cQ z H.size h nw bo nw0 nw1 nw2 nw3 nw4 nw5 nw6 nw7 v1_0 nvi nro nwa nlz nds ndy nga npa 13 w v1_1 nfw nfo nfr nfn nft nfk nfa nfb nha (by omega) (by omega) (by omega) (by omega))
      refine wc_i (WC := [(h, .inr (1, [.ref nw, .ref bo, .int v1_0])), (bo, .inl (cI, 16, .inl v1_1)), (nw, .inr (3, [.int nvi, .int nro, .int nwa, .int nlz, .int nds, .int ndy, .int nga, .int npa, .ref nw0, .ref nw1, .ref nw2, .ref nw3, .ref nw4, .ref nw5, .ref nw6, .ref nw7])), (nw0, .inl (cI, 8, .inl nfw)), (nw1, .inl (cI, 8, .inl nfo)), (nw2, .inl (cI, 8, .inl nfr)), (nw3, .inl (cI, 8, .inl nfn)), (nw4, .inl (cI, 8, .inl nft)), (nw5, .inl (cI, 3, .inl nfk)), (nw6, .inl (cI, 3, .inl nfa)), (nw7, .inl (cI, 3, .inl nfb))]) (WR := []) (va_runV (As := [.int 13, .int w, .int 6]) (rest := [.int 2]) ⟨hx, hb, hml, hown, hts⟩ k_12 (cwV 3 hts gX1_gives_X1_gives rfl rfl rfl (by decide +kernel) ⟨Nat.le_of_ble_eq_true rfl, Nat.le_of_ble_eq_true rfl⟩) (wpz_V hZ hS hAb hP hK hD hN [9, 10, 0, 1, 2, 3, 4, 5, 6, 7, 8] (by decide) rfl (ci := 1) rfl rfl) rfl rfl hl.1 rfl (lv_room (Nat.le_of_ble_eq_true rfl)) dX1_gives_152 ⟨Nat.le_of_ble_eq_true rfl, Nat.le_of_ble_eq_true rfl⟩) hP hD hS hA [9, 10, 0, 1, 2, 3, 4, 5, 6, 7, 8] [] rfl rfl (by decide) (by decide) (fun r_12 u_12 H locs hw_12 hP hD hS => ?_)
      clear k_12
      obtain ⟨v12_0, v12_1⟩ := u_12
      have hP : va_P D kl [(h, .inr (1, [.ref nw, .ref bo, .int v12_0])), (bo, .inl (cI, 16, .inl v12_1)), (nw, .inr (3, [.int nvi, .int nro, .int nwa, .int nlz, .int nds, .int ndy, .int nga, .int npa, .ref nw0, .ref nw1, .ref nw2, .ref nw3, .ref nw4, .ref nw5, .ref nw6, .ref nw7])), (nw0, .inl (cI, 8, .inl nfw)), (nw1, .inl (cI, 8, .inl nfo)), (nw2, .inl (cI, 8, .inl nfr)), (nw3, .inl (cI, 8, .inl nfn)), (nw4, .inl (cI, 8, .inl nft)), (nw5, .inl (cI, 3, .inl nfk)), (nw6, .inl (cI, 3, .inl nfa)), (nw7, .inl (cI, 3, .inl nfb))] H := hP
      have hD : va_D A [(h, .inr (1, [.ref nw, .ref bo, .int v12_0])), (bo, .inl (cI, 16, .inl v12_1)), (nw, .inr (3, [.int nvi, .int nro, .int nwa, .int nlz, .int nds, .int ndy, .int nga, .int npa, .ref nw0, .ref nw1, .ref nw2, .ref nw3, .ref nw4, .ref nw5, .ref nw6, .ref nw7])), (nw0, .inl (cI, 8, .inl nfw)), (nw1, .inl (cI, 8, .inl nfo)), (nw2, .inl (cI, 8, .inl nfr)), (nw3, .inl (cI, 8, .inl nfn)), (nw4, .inl (cI, 8, .inl nft)), (nw5, .inl (cI, 3, .inl nfk)), (nw6, .inl (cI, 3, .inl nfa)), (nw7, .inl (cI, 3, .inl nfb))] := hD
      have c12_0 := hw_12
      have c12_0 : 0 ≤ v12_0.toInt ∧ v12_0.toInt ≤ 16 := c12_0
      refine lv_imul hx hb dX1_gives_155 ?_
      refine lv_topi (fun x_13 ex_13 => ?_)
      clear ex_13
      exact wr_i (v := x_13) hx hb hr hlocks hS (v12_0, v12_1) (by exact show 0 ≤ (v12_0 : Int32).toInt ∧ (v12_0 : Int32).toInt ≤ 16 from by omega) (hP.sub [0, 1, 2, 3, 4, 5, 6, 7, 8, 9, 10] rfl) (hD.sub [0, 1, 2, 3, 4, 5, 6, 7, 8, 9, 10] (by decide) rfl) dX1_gives_156
    · refine lv_tableIn (off := 213) (tgt := 232) hx hb dX1_gives_19 (by omega) (by omega) (by rw [g_3]; rfl) (by decide) ?_
      refine lv_iconst (v := 0) hx hb dX1_gives_232 (by decide) ?_
      exact wr_i (v := 0) hx hb hr hlocks hS (v1_0, v1_1) (by exact show 0 ≤ (v1_0 : Int32).toInt ∧ (v1_0 : Int32).toInt ≤ 16 from by omega) (hP.sub [9, 10, 0, 1, 2, 3, 4, 5, 6, 7, 8] rfl) (hD.sub [9, 10, 0, 1, 2, 3, 4, 5, 6, 7, 8] (by decide) rfl) dX1_gives_233
    · refine lv_tableIn (off := 213) (tgt := 232) hx hb dX1_gives_19 (by omega) (by omega) (by rw [g_3]; rfl) (by decide) ?_
      refine lv_iconst (v := 0) hx hb dX1_gives_232 (by decide) ?_
      exact wr_i (v := 0) hx hb hr hlocks hS (v1_0, v1_1) (by exact show 0 ≤ (v1_0 : Int32).toInt ∧ (v1_0 : Int32).toInt ≤ 16 from by omega) (hP.sub [9, 10, 0, 1, 2, 3, 4, 5, 6, 7, 8] rfl) (hD.sub [9, 10, 0, 1, 2, 3, 4, 5, 6, 7, 8] (by decide) rfl) dX1_gives_233
    · refine lv_tableIn (off := 213) (tgt := 232) hx hb dX1_gives_19 (by omega) (by omega) (by rw [g_3]; rfl) (by decide) ?_
      refine lv_iconst (v := 0) hx hb dX1_gives_232 (by decide) ?_
      exact wr_i (v := 0) hx hb hr hlocks hS (v1_0, v1_1) (by exact show 0 ≤ (v1_0 : Int32).toInt ∧ (v1_0 : Int32).toInt ≤ 16 from by omega) (hP.sub [9, 10, 0, 1, 2, 3, 4, 5, 6, 7, 8] rfl) (hD.sub [9, 10, 0, 1, 2, 3, 4, 5, 6, 7, 8] (by decide) rfl) dX1_gives_233
    · refine lv_tableIn (off := 213) (tgt := 232) hx hb dX1_gives_19 (by omega) (by omega) (by rw [g_3]; rfl) (by decide) ?_
      refine lv_iconst (v := 0) hx hb dX1_gives_232 (by decide) ?_
      exact wr_i (v := 0) hx hb hr hlocks hS (v1_0, v1_1) (by exact show 0 ≤ (v1_0 : Int32).toInt ∧ (v1_0 : Int32).toInt ≤ 16 from by omega) (hP.sub [9, 10, 0, 1, 2, 3, 4, 5, 6, 7, 8] rfl) (hD.sub [9, 10, 0, 1, 2, 3, 4, 5, 6, 7, 8] (by decide) rfl) dX1_gives_233
    · refine lv_tableIn (off := 213) (tgt := 232) hx hb dX1_gives_19 (by omega) (by omega) (by rw [g_3]; rfl) (by decide) ?_
      refine lv_iconst (v := 0) hx hb dX1_gives_232 (by decide) ?_
      exact wr_i (v := 0) hx hb hr hlocks hS (v1_0, v1_1) (by exact show 0 ≤ (v1_0 : Int32).toInt ∧ (v1_0 : Int32).toInt ≤ 16 from by omega) (hP.sub [9, 10, 0, 1, 2, 3, 4, 5, 6, 7, 8] rfl) (hD.sub [9, 10, 0, 1, 2, 3, 4, 5, 6, 7, 8] (by decide) rfl) dX1_gives_233
    · refine lv_tableIn (off := 138) (tgt := 157) hx hb dX1_gives_19 (by omega) (by omega) (by rw [g_3]; rfl) (by decide) ?_
      refine lv_iload_n hx hb dX1_gives_157 rfl (lv_at hl 3 rfl) ?_
      exact wr_i (v := w) hx hb hr hlocks hS (v1_0, v1_1) (by exact show 0 ≤ (v1_0 : Int32).toInt ∧ (v1_0 : Int32).toInt ≤ 16 from by omega) (hP.sub [9, 10, 0, 1, 2, 3, 4, 5, 6, 7, 8] rfl) (hD.sub [9, 10, 0, 1, 2, 3, 4, 5, 6, 7, 8] (by decide) rfl) dX1_gives_158
    · refine lv_tableIn (off := 140) (tgt := 159) hx hb dX1_gives_19 (by omega) (by omega) (by rw [g_3]; rfl) (by decide) ?_
      refine lv_aload_n hx hb dX1_gives_159 rfl (lv_at hl 1 rfl) ?_
      refine lv_bipush (v := 20) hx hb dX1_gives_160 (by decide) ?_
      refine lv_iload_n hx hb dX1_gives_162 rfl (lv_at hl 3 rfl) ?_
      refine lv_iload hx hb dX1_gives_163 (lv_at hl 0 rfl) ?_
      have k_14 := (g_X1_gives_6 l D cI cB cQ z H.size h nw bo nw0 nw1 nw2 nw3 nw4 nw5 nw6 nw7 v1_0 nvi nro nwa nlz nds ndy nga npa 20 w v1_1 nfw nfo nfr nfn nft nfk nfa nfb nha (by omega) (by omega) (by omega) (by omega))
      refine wc_i (WC := [(h, .inr (1, [.ref nw, .ref bo, .int v1_0])), (bo, .inl (cI, 16, .inl v1_1)), (nw, .inr (3, [.int nvi, .int nro, .int nwa, .int nlz, .int nds, .int ndy, .int nga, .int npa, .ref nw0, .ref nw1, .ref nw2, .ref nw3, .ref nw4, .ref nw5, .ref nw6, .ref nw7])), (nw0, .inl (cI, 8, .inl nfw)), (nw1, .inl (cI, 8, .inl nfo)), (nw2, .inl (cI, 8, .inl nfr)), (nw3, .inl (cI, 8, .inl nfn)), (nw4, .inl (cI, 8, .inl nft)), (nw5, .inl (cI, 3, .inl nfk)), (nw6, .inl (cI, 3, .inl nfa)), (nw7, .inl (cI, 3, .inl nfb))]) (WR := []) (va_runV (As := [.int 20, .int w, .int 6]) (rest := []) ⟨hx, hb, hml, hown, hts⟩ k_14 (cwV 3 hts gX1_gives_X1_gives rfl rfl rfl (by decide +kernel) ⟨Nat.le_of_ble_eq_true rfl, Nat.le_of_ble_eq_true rfl⟩) (wpz_V hZ hS hAb hP hK hD hN [9, 10, 0, 1, 2, 3, 4, 5, 6, 7, 8] (by decide) rfl (ci := 1) rfl rfl) rfl rfl hl.1 rfl (lv_room (Nat.le_of_ble_eq_true rfl)) dX1_gives_165 ⟨Nat.le_of_ble_eq_true rfl, Nat.le_of_ble_eq_true rfl⟩) hP hD hS hA [9, 10, 0, 1, 2, 3, 4, 5, 6, 7, 8] [] rfl rfl (by decide) (by decide) (fun r_14 u_14 H locs hw_14 hP hD hS => ?_)
      clear k_14
      obtain ⟨v14_0, v14_1⟩ := u_14
      have hP : va_P D kl [(h, .inr (1, [.ref nw, .ref bo, .int v14_0])), (bo, .inl (cI, 16, .inl v14_1)), (nw, .inr (3, [.int nvi, .int nro, .int nwa, .int nlz, .int nds, .int ndy, .int nga, .int npa, .ref nw0, .ref nw1, .ref nw2, .ref nw3, .ref nw4, .ref nw5, .ref nw6, .ref nw7])), (nw0, .inl (cI, 8, .inl nfw)), (nw1, .inl (cI, 8, .inl nfo)), (nw2, .inl (cI, 8, .inl nfr)), (nw3, .inl (cI, 8, .inl nfn)), (nw4, .inl (cI, 8, .inl nft)), (nw5, .inl (cI, 3, .inl nfk)), (nw6, .inl (cI, 3, .inl nfa)), (nw7, .inl (cI, 3, .inl nfb))] H := hP
      have hD : va_D A [(h, .inr (1, [.ref nw, .ref bo, .int v14_0])), (bo, .inl (cI, 16, .inl v14_1)), (nw, .inr (3, [.int nvi, .int nro, .int nwa, .int nlz, .int nds, .int ndy, .int nga, .int npa, .ref nw0, .ref nw1, .ref nw2, .ref nw3, .ref nw4, .ref nw5, .ref nw6, .ref nw7])), (nw0, .inl (cI, 8, .inl nfw)), (nw1, .inl (cI, 8, .inl nfo)), (nw2, .inl (cI, 8, .inl nfr)), (nw3, .inl (cI, 8, .inl nfn)), (nw4, .inl (cI, 8, .inl nft)), (nw5, .inl (cI, 3, .inl nfk)), (nw6, .inl (cI, 3, .inl nfa)), (nw7, .inl (cI, 3, .inl nfb))] := hD
      have c14_0 := hw_14
      have c14_0 : 0 ≤ v14_0.toInt ∧ v14_0.toInt ≤ 16 := c14_0
      refine lv_aload_n hx hb dX1_gives_168 rfl (lv_at hl 1 rfl) ?_
      refine va_get (D := D) (ci := 1) (v := .ref nw) (C := RX1) (T := TX1) (N := 3) hx hb hts (fun _ h => List.mem_cons_of_mem _ (List.mem_append_left _ (List.mem_append_right _ h))) hown hK hP 0 rfl rfl 0 (by decide) (hts (.fieldLink RX1 19 "WinterWalk$Asks" "land" "LWinterWalk$Land;") (List.mem_of_getElem? (i := 1) rfl)) (fun _ h9 => h9) rfl dX1_gives_169 ?_
      refine va_get (D := D) (ci := 3) (v := .ref nw1) (C := RX4) (T := TX4) (N := 16) hx hb hts (fun _ h => List.mem_cons_of_mem _ (List.mem_append_right _ h)) hown hK hP 2 rfl rfl 9 (by decide) (hts (.fieldLink RX1 62 "WinterWalk$Land" "offers" "[I") (List.mem_of_getElem? (i := 3) rfl)) (fun _ h9 => h9) rfl dX1_gives_172 ?_
      refine lv_aload_n hx hb dX1_gives_175 rfl (lv_at hl 1 rfl) ?_
      refine va_get (D := D) (ci := 1) (v := .ref nw) (C := RX1) (T := TX1) (N := 3) hx hb hts (fun _ h => List.mem_cons_of_mem _ (List.mem_append_left _ (List.mem_append_right _ h))) hown hK hP 0 rfl rfl 0 (by decide) (hts (.fieldLink RX1 19 "WinterWalk$Asks" "land" "LWinterWalk$Land;") (List.mem_of_getElem? (i := 1) rfl)) (fun _ h9 => h9) rfl dX1_gives_176 ?_
      refine va_get (D := D) (ci := 3) (v := .ref nw6) (C := RX4) (T := TX4) (N := 16) hx hb hts (fun _ h => List.mem_cons_of_mem _ (List.mem_append_right _ h)) hown hK hP 2 rfl rfl 14 (by decide) (hts (.fieldLink RX1 59 "WinterWalk$Land" "at" "[I") (List.mem_of_getElem? (i := 2) rfl)) (fun _ h9 => h9) rfl dX1_gives_179 ?_
      refine lv_iload_n hx hb dX1_gives_182 rfl (lv_at hl 3 rfl) ?_
      refine va_iald hx hb hK hP 9 0 rfl rfl (zi_in (by omega) (by omega)) dX1_gives_183 ?_
      refine lv_topi (fun x_15 ex_15 => ?_)
      have f_15 : 0 ≤ x_15.toInt ∧ x_15.toInt ≤ 7 := by rw [ex_15]; exact nha _ (zi_cl (by omega) (by omega))
      clear ex_15
      refine va_iald hx hb hK hP 4 0 rfl rfl (zi_in (by omega) (by omega)) dX1_gives_184 ?_
      refine lv_topi (fun x_16 ex_16 => ?_)
      clear ex_16
      refine lv_iadd hx hb dX1_gives_185 ?_
      refine lv_topi (fun x_17 ex_17 => ?_)
      clear ex_17
      exact wr_i (v := x_17) hx hb hr hlocks hS (v14_0, v14_1) (by exact show 0 ≤ (v14_0 : Int32).toInt ∧ (v14_0 : Int32).toInt ≤ 16 from by omega) (hP.sub [0, 1, 2, 3, 4, 5, 6, 7, 8, 9, 10] rfl) (hD.sub [0, 1, 2, 3, 4, 5, 6, 7, 8, 9, 10] (by decide) rfl) dX1_gives_186
    · refine lv_tableIn (off := 168) (tgt := 187) hx hb dX1_gives_19 (by omega) (by omega) (by rw [g_3]; rfl) (by decide) ?_
      refine lv_aload_n hx hb dX1_gives_187 rfl (lv_at hl 1 rfl) ?_
      refine lv_bipush (v := 21) hx hb dX1_gives_188 (by decide) ?_
      refine lv_iload_n hx hb dX1_gives_190 rfl (lv_at hl 3 rfl) ?_
      refine lv_iload hx hb dX1_gives_191 (lv_at hl 0 rfl) ?_
      have k_18 := (g_X1_gives_6 l D cI cB cQ z H.size h nw bo nw0 nw1 nw2 nw3 nw4 nw5 nw6 nw7 v1_0 nvi nro nwa nlz nds ndy nga npa 21 w v1_1 nfw nfo nfr nfn nft nfk nfa nfb nha (by omega) (by omega) (by omega) (by omega))
      refine wc_i (WC := [(h, .inr (1, [.ref nw, .ref bo, .int v1_0])), (bo, .inl (cI, 16, .inl v1_1)), (nw, .inr (3, [.int nvi, .int nro, .int nwa, .int nlz, .int nds, .int ndy, .int nga, .int npa, .ref nw0, .ref nw1, .ref nw2, .ref nw3, .ref nw4, .ref nw5, .ref nw6, .ref nw7])), (nw0, .inl (cI, 8, .inl nfw)), (nw1, .inl (cI, 8, .inl nfo)), (nw2, .inl (cI, 8, .inl nfr)), (nw3, .inl (cI, 8, .inl nfn)), (nw4, .inl (cI, 8, .inl nft)), (nw5, .inl (cI, 3, .inl nfk)), (nw6, .inl (cI, 3, .inl nfa)), (nw7, .inl (cI, 3, .inl nfb))]) (WR := []) (va_runV (As := [.int 21, .int w, .int 6]) (rest := []) ⟨hx, hb, hml, hown, hts⟩ k_18 (cwV 3 hts gX1_gives_X1_gives rfl rfl rfl (by decide +kernel) ⟨Nat.le_of_ble_eq_true rfl, Nat.le_of_ble_eq_true rfl⟩) (wpz_V hZ hS hAb hP hK hD hN [9, 10, 0, 1, 2, 3, 4, 5, 6, 7, 8] (by decide) rfl (ci := 1) rfl rfl) rfl rfl hl.1 rfl (lv_room (Nat.le_of_ble_eq_true rfl)) dX1_gives_193 ⟨Nat.le_of_ble_eq_true rfl, Nat.le_of_ble_eq_true rfl⟩) hP hD hS hA [9, 10, 0, 1, 2, 3, 4, 5, 6, 7, 8] [] rfl rfl (by decide) (by decide) (fun r_18 u_18 H locs hw_18 hP hD hS => ?_)
      clear k_18
      obtain ⟨v18_0, v18_1⟩ := u_18
      have hP : va_P D kl [(h, .inr (1, [.ref nw, .ref bo, .int v18_0])), (bo, .inl (cI, 16, .inl v18_1)), (nw, .inr (3, [.int nvi, .int nro, .int nwa, .int nlz, .int nds, .int ndy, .int nga, .int npa, .ref nw0, .ref nw1, .ref nw2, .ref nw3, .ref nw4, .ref nw5, .ref nw6, .ref nw7])), (nw0, .inl (cI, 8, .inl nfw)), (nw1, .inl (cI, 8, .inl nfo)), (nw2, .inl (cI, 8, .inl nfr)), (nw3, .inl (cI, 8, .inl nfn)), (nw4, .inl (cI, 8, .inl nft)), (nw5, .inl (cI, 3, .inl nfk)), (nw6, .inl (cI, 3, .inl nfa)), (nw7, .inl (cI, 3, .inl nfb))] H := hP
      have hD : va_D A [(h, .inr (1, [.ref nw, .ref bo, .int v18_0])), (bo, .inl (cI, 16, .inl v18_1)), (nw, .inr (3, [.int nvi, .int nro, .int nwa, .int nlz, .int nds, .int ndy, .int nga, .int npa, .ref nw0, .ref nw1, .ref nw2, .ref nw3, .ref nw4, .ref nw5, .ref nw6, .ref nw7])), (nw0, .inl (cI, 8, .inl nfw)), (nw1, .inl (cI, 8, .inl nfo)), (nw2, .inl (cI, 8, .inl nfr)), (nw3, .inl (cI, 8, .inl nfn)), (nw4, .inl (cI, 8, .inl nft)), (nw5, .inl (cI, 3, .inl nfk)), (nw6, .inl (cI, 3, .inl nfa)), (nw7, .inl (cI, 3, .inl nfb))] := hD
      have c18_0 := hw_18
      have c18_0 : 0 ≤ v18_0.toInt ∧ v18_0.toInt ≤ 16 := c18_0
      refine lv_sipush (v := 1000) hx hb dX1_gives_196 (by decide) ?_
      refine lv_isub hx hb dX1_gives_199 ?_
      refine lv_topi (fun x_19 ex_19 => ?_)
      clear ex_19
      exact wr_i (v := x_19) hx hb hr hlocks hS (v18_0, v18_1) (by exact show 0 ≤ (v18_0 : Int32).toInt ∧ (v18_0 : Int32).toInt ≤ 16 from by omega) (hP.sub [0, 1, 2, 3, 4, 5, 6, 7, 8, 9, 10] rfl) (hD.sub [0, 1, 2, 3, 4, 5, 6, 7, 8, 9, 10] (by decide) rfl) dX1_gives_200
    · refine lv_tableIn (off := 182) (tgt := 201) hx hb dX1_gives_19 (by omega) (by omega) (by rw [g_3]; rfl) (by decide) ?_
      refine lv_aload_n hx hb dX1_gives_201 rfl (lv_at hl 1 rfl) ?_
      refine lv_bipush (v := 20) hx hb dX1_gives_202 (by decide) ?_
      refine lv_iload_n hx hb dX1_gives_204 rfl (lv_at hl 3 rfl) ?_
      refine lv_iload hx hb dX1_gives_205 (lv_at hl 0 rfl) ?_
      have k_20 := (g_X1_gives_6 l D cI cB cQ z H.size h nw bo nw0 nw1 nw2 nw3 nw4 nw5 nw6 nw7 v1_0 nvi nro nwa nlz nds ndy nga npa 20 w v1_1 nfw nfo nfr nfn nft nfk nfa nfb nha (by omega) (by omega) (by omega) (by omega))
      refine wc_i (WC := [(h, .inr (1, [.ref nw, .ref bo, .int v1_0])), (bo, .inl (cI, 16, .inl v1_1)), (nw, .inr (3, [.int nvi, .int nro, .int nwa, .int nlz, .int nds, .int ndy, .int nga, .int npa, .ref nw0, .ref nw1, .ref nw2, .ref nw3, .ref nw4, .ref nw5, .ref nw6, .ref nw7])), (nw0, .inl (cI, 8, .inl nfw)), (nw1, .inl (cI, 8, .inl nfo)), (nw2, .inl (cI, 8, .inl nfr)), (nw3, .inl (cI, 8, .inl nfn)), (nw4, .inl (cI, 8, .inl nft)), (nw5, .inl (cI, 3, .inl nfk)), (nw6, .inl (cI, 3, .inl nfa)), (nw7, .inl (cI, 3, .inl nfb))]) (WR := []) (va_runV (As := [.int 20, .int w, .int 6]) (rest := []) ⟨hx, hb, hml, hown, hts⟩ k_20 (cwV 3 hts gX1_gives_X1_gives rfl rfl rfl (by decide +kernel) ⟨Nat.le_of_ble_eq_true rfl, Nat.le_of_ble_eq_true rfl⟩) (wpz_V hZ hS hAb hP hK hD hN [9, 10, 0, 1, 2, 3, 4, 5, 6, 7, 8] (by decide) rfl (ci := 1) rfl rfl) rfl rfl hl.1 rfl (lv_room (Nat.le_of_ble_eq_true rfl)) dX1_gives_207 ⟨Nat.le_of_ble_eq_true rfl, Nat.le_of_ble_eq_true rfl⟩) hP hD hS hA [9, 10, 0, 1, 2, 3, 4, 5, 6, 7, 8] [] rfl rfl (by decide) (by decide) (fun r_20 u_20 H locs hw_20 hP hD hS => ?_)
      clear k_20
      obtain ⟨v20_0, v20_1⟩ := u_20
      have hP : va_P D kl [(h, .inr (1, [.ref nw, .ref bo, .int v20_0])), (bo, .inl (cI, 16, .inl v20_1)), (nw, .inr (3, [.int nvi, .int nro, .int nwa, .int nlz, .int nds, .int ndy, .int nga, .int npa, .ref nw0, .ref nw1, .ref nw2, .ref nw3, .ref nw4, .ref nw5, .ref nw6, .ref nw7])), (nw0, .inl (cI, 8, .inl nfw)), (nw1, .inl (cI, 8, .inl nfo)), (nw2, .inl (cI, 8, .inl nfr)), (nw3, .inl (cI, 8, .inl nfn)), (nw4, .inl (cI, 8, .inl nft)), (nw5, .inl (cI, 3, .inl nfk)), (nw6, .inl (cI, 3, .inl nfa)), (nw7, .inl (cI, 3, .inl nfb))] H := hP
      have hD : va_D A [(h, .inr (1, [.ref nw, .ref bo, .int v20_0])), (bo, .inl (cI, 16, .inl v20_1)), (nw, .inr (3, [.int nvi, .int nro, .int nwa, .int nlz, .int nds, .int ndy, .int nga, .int npa, .ref nw0, .ref nw1, .ref nw2, .ref nw3, .ref nw4, .ref nw5, .ref nw6, .ref nw7])), (nw0, .inl (cI, 8, .inl nfw)), (nw1, .inl (cI, 8, .inl nfo)), (nw2, .inl (cI, 8, .inl nfr)), (nw3, .inl (cI, 8, .inl nfn)), (nw4, .inl (cI, 8, .inl nft)), (nw5, .inl (cI, 3, .inl nfk)), (nw6, .inl (cI, 3, .inl nfa)), (nw7, .inl (cI, 3, .inl nfb))] := hD
      have c20_0 := hw_20
      have c20_0 : 0 ≤ v20_0.toInt ∧ v20_0.toInt ≤ 16 := c20_0
      refine lv_aload_n hx hb dX1_gives_210 rfl (lv_at hl 1 rfl) ?_
      refine lv_iload_n hx hb dX1_gives_211 rfl (lv_at hl 3 rfl) ?_
      refine lv_iconst (v := 0) hx hb dX1_gives_212 (by decide) ?_
      refine lv_iload hx hb dX1_gives_213 (lv_at hl 0 rfl) ?_
      have k_21 := (g_X1_asked_6 l D cI cB cQ z H.size h nw bo nw0 nw1 nw2 nw3 nw4 nw5 nw6 nw7 v20_0 nvi nro nwa nlz nds ndy nga npa w 0 v20_1 nfw nfo nfr nfn nft nfk nfa nfb nha (by omega) (by omega) (by omega) (by omega))
      refine wc_i (WC := [(h, .inr (1, [.ref nw, .ref bo, .int v20_0])), (bo, .inl (cI, 16, .inl v20_1)), (nw, .inr (3, [.int nvi, .int nro, .int nwa, .int nlz, .int nds, .int ndy, .int nga, .int npa, .ref nw0, .ref nw1, .ref nw2, .ref nw3, .ref nw4, .ref nw5, .ref nw6, .ref nw7])), (nw0, .inl (cI, 8, .inl nfw)), (nw1, .inl (cI, 8, .inl nfo)), (nw2, .inl (cI, 8, .inl nfr)), (nw3, .inl (cI, 8, .inl nfn)), (nw4, .inl (cI, 8, .inl nft)), (nw5, .inl (cI, 3, .inl nfk)), (nw6, .inl (cI, 3, .inl nfa)), (nw7, .inl (cI, 3, .inl nfb))]) (WR := []) (va_runV (As := [.int w, .int 0, .int 6]) (rest := [.int r_20]) ⟨hx, hb, hml, hown, hts⟩ k_21 (cwV 3 hts gX1_gives_X1_asked rfl rfl rfl (by decide +kernel) ⟨Nat.le_of_ble_eq_true rfl, Nat.le_of_ble_eq_true rfl⟩) (wpz_V hZ hS hAb hP hK hD hN [0, 1, 2, 3, 4, 5, 6, 7, 8, 9, 10] (by decide) rfl (ci := 1) rfl rfl) rfl rfl hl.1 rfl (lv_room (Nat.le_of_ble_eq_true rfl)) dX1_gives_215 ⟨Nat.le_of_ble_eq_true rfl, Nat.le_of_ble_eq_true rfl⟩) hP hD hS hA [0, 1, 2, 3, 4, 5, 6, 7, 8, 9, 10] [] rfl rfl (by decide) (by decide) (fun r_21 u_21 H locs hw_21 hP hD hS => ?_)
      clear k_21
      obtain ⟨v21_0, v21_1⟩ := u_21
      have hP : va_P D kl [(h, .inr (1, [.ref nw, .ref bo, .int v21_0])), (bo, .inl (cI, 16, .inl v21_1)), (nw, .inr (3, [.int nvi, .int nro, .int nwa, .int nlz, .int nds, .int ndy, .int nga, .int npa, .ref nw0, .ref nw1, .ref nw2, .ref nw3, .ref nw4, .ref nw5, .ref nw6, .ref nw7])), (nw0, .inl (cI, 8, .inl nfw)), (nw1, .inl (cI, 8, .inl nfo)), (nw2, .inl (cI, 8, .inl nfr)), (nw3, .inl (cI, 8, .inl nfn)), (nw4, .inl (cI, 8, .inl nft)), (nw5, .inl (cI, 3, .inl nfk)), (nw6, .inl (cI, 3, .inl nfa)), (nw7, .inl (cI, 3, .inl nfb))] H := hP
      have hD : va_D A [(h, .inr (1, [.ref nw, .ref bo, .int v21_0])), (bo, .inl (cI, 16, .inl v21_1)), (nw, .inr (3, [.int nvi, .int nro, .int nwa, .int nlz, .int nds, .int ndy, .int nga, .int npa, .ref nw0, .ref nw1, .ref nw2, .ref nw3, .ref nw4, .ref nw5, .ref nw6, .ref nw7])), (nw0, .inl (cI, 8, .inl nfw)), (nw1, .inl (cI, 8, .inl nfo)), (nw2, .inl (cI, 8, .inl nfr)), (nw3, .inl (cI, 8, .inl nfn)), (nw4, .inl (cI, 8, .inl nft)), (nw5, .inl (cI, 3, .inl nfk)), (nw6, .inl (cI, 3, .inl nfa)), (nw7, .inl (cI, 3, .inl nfb))] := hD
      have c21_0 := hw_21
      have c21_0 : 0 ≤ v21_0.toInt ∧ v21_0.toInt ≤ 16 := c21_0
      refine lv_isub hx hb dX1_gives_218 ?_
      refine lv_topi (fun x_22 ex_22 => ?_)
      clear ex_22
      exact wr_i (v := x_22) hx hb hr hlocks hS (v21_0, v21_1) (by exact show 0 ≤ (v21_0 : Int32).toInt ∧ (v21_0 : Int32).toInt ≤ 16 from by omega) (hP.sub [0, 1, 2, 3, 4, 5, 6, 7, 8, 9, 10] rfl) (hD.sub [0, 1, 2, 3, 4, 5, 6, 7, 8, 9, 10] (by decide) rfl) dX1_gives_219
    · refine lv_tableIn (off := 201) (tgt := 220) hx hb dX1_gives_19 (by omega) (by omega) (by rw [g_3]; rfl) (by decide) ?_
      refine lv_iconst (v := 2) hx hb dX1_gives_220 (by decide) ?_
      refine lv_aload_n hx hb dX1_gives_221 rfl (lv_at hl 1 rfl) ?_
      refine lv_bipush (v := 21) hx hb dX1_gives_222 (by decide) ?_
      refine lv_iload_n hx hb dX1_gives_224 rfl (lv_at hl 3 rfl) ?_
      refine lv_iload hx hb dX1_gives_225 (lv_at hl 0 rfl) ?_
      have k_23 := (g_X1_gives_6 l D cI cB cQ z H.size h nw bo nw0 nw1 nw2 nw3 nw4 nw5 nw6 nw7 v1_0 nvi nro nwa nlz nds ndy nga npa 21 w v1_1 nfw nfo nfr nfn nft nfk nfa nfb nha (by omega) (by omega) (by omega) (by omega))
      refine wc_i (WC := [(h, .inr (1, [.ref nw, .ref bo, .int v1_0])), (bo, .inl (cI, 16, .inl v1_1)), (nw, .inr (3, [.int nvi, .int nro, .int nwa, .int nlz, .int nds, .int ndy, .int nga, .int npa, .ref nw0, .ref nw1, .ref nw2, .ref nw3, .ref nw4, .ref nw5, .ref nw6, .ref nw7])), (nw0, .inl (cI, 8, .inl nfw)), (nw1, .inl (cI, 8, .inl nfo)), (nw2, .inl (cI, 8, .inl nfr)), (nw3, .inl (cI, 8, .inl nfn)), (nw4, .inl (cI, 8, .inl nft)), (nw5, .inl (cI, 3, .inl nfk)), (nw6, .inl (cI, 3, .inl nfa)), (nw7, .inl (cI, 3, .inl nfb))]) (WR := []) (va_runV (As := [.int 21, .int w, .int 6]) (rest := [.int 2]) ⟨hx, hb, hml, hown, hts⟩ k_23 (cwV 3 hts gX1_gives_X1_gives rfl rfl rfl (by decide +kernel) ⟨Nat.le_of_ble_eq_true rfl, Nat.le_of_ble_eq_true rfl⟩) (wpz_V hZ hS hAb hP hK hD hN [9, 10, 0, 1, 2, 3, 4, 5, 6, 7, 8] (by decide) rfl (ci := 1) rfl rfl) rfl rfl hl.1 rfl (lv_room (Nat.le_of_ble_eq_true rfl)) dX1_gives_227 ⟨Nat.le_of_ble_eq_true rfl, Nat.le_of_ble_eq_true rfl⟩) hP hD hS hA [9, 10, 0, 1, 2, 3, 4, 5, 6, 7, 8] [] rfl rfl (by decide) (by decide) (fun r_23 u_23 H locs hw_23 hP hD hS => ?_)
      clear k_23
      obtain ⟨v23_0, v23_1⟩ := u_23
      have hP : va_P D kl [(h, .inr (1, [.ref nw, .ref bo, .int v23_0])), (bo, .inl (cI, 16, .inl v23_1)), (nw, .inr (3, [.int nvi, .int nro, .int nwa, .int nlz, .int nds, .int ndy, .int nga, .int npa, .ref nw0, .ref nw1, .ref nw2, .ref nw3, .ref nw4, .ref nw5, .ref nw6, .ref nw7])), (nw0, .inl (cI, 8, .inl nfw)), (nw1, .inl (cI, 8, .inl nfo)), (nw2, .inl (cI, 8, .inl nfr)), (nw3, .inl (cI, 8, .inl nfn)), (nw4, .inl (cI, 8, .inl nft)), (nw5, .inl (cI, 3, .inl nfk)), (nw6, .inl (cI, 3, .inl nfa)), (nw7, .inl (cI, 3, .inl nfb))] H := hP
      have hD : va_D A [(h, .inr (1, [.ref nw, .ref bo, .int v23_0])), (bo, .inl (cI, 16, .inl v23_1)), (nw, .inr (3, [.int nvi, .int nro, .int nwa, .int nlz, .int nds, .int ndy, .int nga, .int npa, .ref nw0, .ref nw1, .ref nw2, .ref nw3, .ref nw4, .ref nw5, .ref nw6, .ref nw7])), (nw0, .inl (cI, 8, .inl nfw)), (nw1, .inl (cI, 8, .inl nfo)), (nw2, .inl (cI, 8, .inl nfr)), (nw3, .inl (cI, 8, .inl nfn)), (nw4, .inl (cI, 8, .inl nft)), (nw5, .inl (cI, 3, .inl nfk)), (nw6, .inl (cI, 3, .inl nfa)), (nw7, .inl (cI, 3, .inl nfb))] := hD
      have c23_0 := hw_23
      have c23_0 : 0 ≤ v23_0.toInt ∧ v23_0.toInt ≤ 16 := c23_0
      refine lv_imul hx hb dX1_gives_230 ?_
      refine lv_topi (fun x_24 ex_24 => ?_)
      clear ex_24
      exact wr_i (v := x_24) hx hb hr hlocks hS (v23_0, v23_1) (by exact show 0 ≤ (v23_0 : Int32).toInt ∧ (v23_0 : Int32).toInt ≤ 16 from by omega) (hP.sub [0, 1, 2, 3, 4, 5, 6, 7, 8, 9, 10] rfl) (hD.sub [0, 1, 2, 3, 4, 5, 6, 7, 8, 9, 10] (by decide) rfl) dX1_gives_231
set_option maxHeartbeats 4000000 in
set_option maxRecDepth 100000 in
theorem g_X1_asked_5 (l : Launch) (D : va_G) (cI cB cQ : ClassId) (z : ZT) (sz : Nat) (h : Nat) (nw : Nat) (bo : Nat) (nw0 : Nat) (nw1 : Nat) (nw2 : Nat) (nw3 : Nat) (nw4 : Nat) (nw5 : Nat) (nw6 : Nat) (nw7 : Nat) (tc : Int32) (nvi : Int32) (nro : Int32) (nwa : Int32) (nlz : Int32) (nds : Int32) (ndy : Int32) (nga : Int32) (npa : Int32) (w : Int32) (k : Int32) (bf : Nat → Int32) (nfw : Nat → Int32) (nfo : Nat → Int32) (nfr : Nat → Int32) (nfn : Nat → Int32) (nft : Nat → Int32) (nfk : Nat → Int32) (nfa : Nat → Int32) (nfb : Nat → Int32) (nha : ∀ j, j < 3 → 0 ≤ (nfa j).toInt ∧ (nfa j).toInt ≤ 7) (h_tc : 0 ≤ tc.toInt ∧ tc.toInt ≤ 16) (h_nvi : 0 ≤ nvi.toInt ∧ nvi.toInt ≤ 8) (h_nwa : 0 ≤ nwa.toInt ∧ nwa.toInt ≤ 3) (h_w : 0 ≤ w.toInt ∧ w.toInt ≤ 2) : miz l yX1_asked wsX1_asked ({ frames := 11, cells := 0, slots := 0, locals := 254 }) z D cI cB cQ [.ref h, .int w, .int k, .int 5] sz [(h, .inr (1, [.ref nw, .ref bo, .int tc])), (bo, .inl (cI, 16, .inl bf)), (nw, .inr (3, [.int nvi, .int nro, .int nwa, .int nlz, .int nds, .int ndy, .int nga, .int npa, .ref nw0, .ref nw1, .ref nw2, .ref nw3, .ref nw4, .ref nw5, .ref nw6, .ref nw7])), (nw0, .inl (cI, 8, .inl nfw)), (nw1, .inl (cI, 8, .inl nfo)), (nw2, .inl (cI, 8, .inl nfr)), (nw3, .inl (cI, 8, .inl nfn)), (nw4, .inl (cI, 8, .inl nft)), (nw5, .inl (cI, 3, .inl nfk)), (nw6, .inl (cI, 3, .inl nfa)), (nw7, .inl (cI, 3, .inl nfb))] (fun (r : Int32) (u : Int32 × (Nat → Int32)) => (0 ≤ u.1.toInt ∧ u.1.toInt ≤ 16)) (fun u => [(h, .inr (1, [.ref nw, .ref bo, .int u.1])), (bo, .inl (cI, 16, .inl u.2)), (nw, .inr (3, [.int nvi, .int nro, .int nwa, .int nlz, .int nds, .int ndy, .int nga, .int npa, .ref nw0, .ref nw1, .ref nw2, .ref nw3, .ref nw4, .ref nw5, .ref nw6, .ref nw7])), (nw0, .inl (cI, 8, .inl nfw)), (nw1, .inl (cI, 8, .inl nfo)), (nw2, .inl (cI, 8, .inl nfr)), (nw3, .inl (cI, 8, .inl nfn)), (nw4, .inl (cI, 8, .inl nft)), (nw5, .inl (cI, 3, .inl nfk)), (nw6, .inl (cI, 3, .inl nfa)), (nw7, .inl (cI, 3, .inl nfb))]) 0 0 := by
  refine wm_z (cc := cX1_asked) (maxL := 4) (ret := (some .int)) (by decide) rfl (Nat.le_of_ble_eq_true rfl) ?_
  intro p e s m below meth c A ls hZ hAb hx hb hr hml hown hts hlocks hin hP hK hD hN hA hl hS
  have hown : s.vm.findClass RX1 = some m.cls := hown
  have hl : lv_has ls 4 [(0, .ref h), (1, .int w), (2, .int k), (3, .int 5)] := hl
  change W p l e ({ frames := 11, cells := 0, slots := 0, locals := 254 }) s m ([.ref h, .int w, .int k, .int 5] : List Value).toArray below meth c s.heap [] 0 0 (MQ below (va_Qi (fun (r : Int32) (u : Int32 × (Nat → Int32)) => (0 ≤ u.1.toInt ∧ u.1.toInt ≤ 16)) (fun u t => wb D A ((fun u => [(h, .inr (1, [.ref nw, .ref bo, .int u.1])), (bo, .inl (cI, 16, .inl u.2)), (nw, .inr (3, [.int nvi, .int nro, .int nwa, .int nlz, .int nds, .int ndy, .int nga, .int npa, .ref nw0, .ref nw1, .ref nw2, .ref nw3, .ref nw4, .ref nw5, .ref nw6, .ref nw7])), (nw0, .inl (cI, 8, .inl nfw)), (nw1, .inl (cI, 8, .inl nfo)), (nw2, .inl (cI, 8, .inl nfr)), (nw3, .inl (cI, 8, .inl nfn)), (nw4, .inl (cI, 8, .inl nft)), (nw5, .inl (cI, 3, .inl nfk)), (nw6, .inl (cI, 3, .inl nfa)), (nw7, .inl (cI, 3, .inl nfb))]) u) t) A) ([.ref h, .int w, .int k, .int 5] : List Value).toArray s 0 0 A) (F0 m 0 ls [])
  refine lv_aload_n hx hb dX1_asked_0 rfl (lv_at hl 0 rfl) ?_
  refine lv_aload_n hx hb dX1_asked_1 rfl (lv_at hl 0 rfl) ?_
  refine va_get (D := D) (ci := 1) (v := .ref nw) (C := RX1) (T := TX1) (N := 3) hx hb hts (fun _ h => List.mem_cons_of_mem _ (List.mem_append_left _ (List.mem_append_right _ h))) hown hK hP 0 rfl rfl 0 (by decide) (hts (.fieldLink RX1 19 "WinterWalk$Asks" "land" "LWinterWalk$Land;") (List.mem_of_getElem? (i := 1) rfl)) (fun _ h9 => h9) rfl dX1_asked_2 ?_
  refine va_get (D := D) (ci := 3) (v := .ref nw5) (C := RX4) (T := TX4) (N := 16) hx hb hts (fun _ h => List.mem_cons_of_mem _ (List.mem_append_right _ h)) hown hK hP 2 rfl rfl 13 (by decide) (hts (.fieldLink RX1 27 "WinterWalk$Land" "kinds" "[I") (List.mem_of_getElem? (i := 2) rfl)) (fun _ h9 => h9) rfl dX1_asked_5 ?_
  refine lv_iload_n hx hb dX1_asked_8 rfl (lv_at hl 1 rfl) ?_
  refine va_iald hx hb hK hP 8 0 rfl rfl (zi_in (by omega) (by omega)) dX1_asked_9 ?_
  refine lv_topi (fun x_1 ex_1 => ?_)
  clear ex_1
  refine lv_iload_n hx hb dX1_asked_10 rfl (lv_at hl 2 rfl) ?_
  have k_2 := (g_X1_bodyFor l D cI cB cQ z s.heap.size x_1 k)
  refine wc_i (WC := []) (WR := [(h, .inr (1, [.ref nw, .ref bo, .int tc])), (bo, .inl (cI, 16, .inl bf)), (nw, .inr (3, [.int nvi, .int nro, .int nwa, .int nlz, .int nds, .int ndy, .int nga, .int npa, .ref nw0, .ref nw1, .ref nw2, .ref nw3, .ref nw4, .ref nw5, .ref nw6, .ref nw7])), (nw0, .inl (cI, 8, .inl nfw)), (nw1, .inl (cI, 8, .inl nfo)), (nw2, .inl (cI, 8, .inl nfr)), (nw3, .inl (cI, 8, .inl nfn)), (nw4, .inl (cI, 8, .inl nft)), (nw5, .inl (cI, 3, .inl nfk)), (nw6, .inl (cI, 3, .inl nfa)), (nw7, .inl (cI, 3, .inl nfb))]) (va_runS (As := [.int x_1, .int k]) (rest := [.ref h]) ⟨hx, hb, hml, hown, hts⟩ k_2 (va_cwS 2 hts gX1_asked_X1_bodyFor rfl rfl rfl (by decide +kernel) ⟨Nat.le_of_ble_eq_true rfl, Nat.le_of_ble_eq_true rfl⟩) (wpz_S hZ hS hAb hP hK hD hN [] (by decide) rfl) rfl rfl hl.1 rfl (lv_room (Nat.le_of_ble_eq_true rfl)) dX1_asked_11 ⟨Nat.le_of_ble_eq_true rfl, Nat.le_of_ble_eq_true rfl⟩) hP hD hS hA [] [0, 1, 2, 3, 4, 5, 6, 7, 8, 9, 10] rfl rfl (by decide) (by decide) (fun r_2 u_2 H locs hw_2 hP hD hS => ?_)
  clear k_2
  have hP : va_P D kl [(h, .inr (1, [.ref nw, .ref bo, .int tc])), (bo, .inl (cI, 16, .inl bf)), (nw, .inr (3, [.int nvi, .int nro, .int nwa, .int nlz, .int nds, .int ndy, .int nga, .int npa, .ref nw0, .ref nw1, .ref nw2, .ref nw3, .ref nw4, .ref nw5, .ref nw6, .ref nw7])), (nw0, .inl (cI, 8, .inl nfw)), (nw1, .inl (cI, 8, .inl nfo)), (nw2, .inl (cI, 8, .inl nfr)), (nw3, .inl (cI, 8, .inl nfn)), (nw4, .inl (cI, 8, .inl nft)), (nw5, .inl (cI, 3, .inl nfk)), (nw6, .inl (cI, 3, .inl nfa)), (nw7, .inl (cI, 3, .inl nfb))] H := hP
  have hD : va_D A [(h, .inr (1, [.ref nw, .ref bo, .int tc])), (bo, .inl (cI, 16, .inl bf)), (nw, .inr (3, [.int nvi, .int nro, .int nwa, .int nlz, .int nds, .int ndy, .int nga, .int npa, .ref nw0, .ref nw1, .ref nw2, .ref nw3, .ref nw4, .ref nw5, .ref nw6, .ref nw7])), (nw0, .inl (cI, 8, .inl nfw)), (nw1, .inl (cI, 8, .inl nfo)), (nw2, .inl (cI, 8, .inl nfr)), (nw3, .inl (cI, 8, .inl nfn)), (nw4, .inl (cI, 8, .inl nft)), (nw5, .inl (cI, 3, .inl nfk)), (nw6, .inl (cI, 3, .inl nfa)), (nw7, .inl (cI, 3, .inl nfb))] := hD
  clear hw_2
  refine lv_iload_n hx hb dX1_asked_14 rfl (lv_at hl 1 rfl) ?_
  refine lv_iload_n hx hb dX1_asked_15 rfl (lv_at hl 3 rfl) ?_
  have k_3 := (g_X1_gives_5 l D cI cB cQ z H.size h nw bo nw0 nw1 nw2 nw3 nw4 nw5 nw6 nw7 tc nvi nro nwa nlz nds ndy nga npa r_2 w bf nfw nfo nfr nfn nft nfk nfa nfb nha (by omega) (by omega) (by omega) (by omega))
  refine wc_i (WC := [(h, .inr (1, [.ref nw, .ref bo, .int tc])), (bo, .inl (cI, 16, .inl bf)), (nw, .inr (3, [.int nvi, .int nro, .int nwa, .int nlz, .int nds, .int ndy, .int nga, .int npa, .ref nw0, .ref nw1, .ref nw2, .ref nw3, .ref nw4, .ref nw5, .ref nw6, .ref nw7])), (nw0, .inl (cI, 8, .inl nfw)), (nw1, .inl (cI, 8, .inl nfo)), (nw2, .inl (cI, 8, .inl nfr)), (nw3, .inl (cI, 8, .inl nfn)), (nw4, .inl (cI, 8, .inl nft)), (nw5, .inl (cI, 3, .inl nfk)), (nw6, .inl (cI, 3, .inl nfa)), (nw7, .inl (cI, 3, .inl nfb))]) (WR := []) (va_runV (As := [.int r_2, .int w, .int 5]) (rest := []) ⟨hx, hb, hml, hown, hts⟩ k_3 (cwV 3 hts gX1_asked_X1_gives rfl rfl rfl (by decide +kernel) ⟨Nat.le_of_ble_eq_true rfl, Nat.le_of_ble_eq_true rfl⟩) (wpz_V hZ hS hAb hP hK hD hN [0, 1, 2, 3, 4, 5, 6, 7, 8, 9, 10] (by decide) rfl (ci := 1) rfl rfl) rfl rfl hl.1 rfl (lv_room (Nat.le_of_ble_eq_true rfl)) dX1_asked_16 ⟨Nat.le_of_ble_eq_true rfl, Nat.le_of_ble_eq_true rfl⟩) hP hD hS hA [0, 1, 2, 3, 4, 5, 6, 7, 8, 9, 10] [] rfl rfl (by decide) (by decide) (fun r_3 u_3 H locs hw_3 hP hD hS => ?_)
  clear k_3
  obtain ⟨v3_0, v3_1⟩ := u_3
  have hP : va_P D kl [(h, .inr (1, [.ref nw, .ref bo, .int v3_0])), (bo, .inl (cI, 16, .inl v3_1)), (nw, .inr (3, [.int nvi, .int nro, .int nwa, .int nlz, .int nds, .int ndy, .int nga, .int npa, .ref nw0, .ref nw1, .ref nw2, .ref nw3, .ref nw4, .ref nw5, .ref nw6, .ref nw7])), (nw0, .inl (cI, 8, .inl nfw)), (nw1, .inl (cI, 8, .inl nfo)), (nw2, .inl (cI, 8, .inl nfr)), (nw3, .inl (cI, 8, .inl nfn)), (nw4, .inl (cI, 8, .inl nft)), (nw5, .inl (cI, 3, .inl nfk)), (nw6, .inl (cI, 3, .inl nfa)), (nw7, .inl (cI, 3, .inl nfb))] H := hP
  have hD : va_D A [(h, .inr (1, [.ref nw, .ref bo, .int v3_0])), (bo, .inl (cI, 16, .inl v3_1)), (nw, .inr (3, [.int nvi, .int nro, .int nwa, .int nlz, .int nds, .int ndy, .int nga, .int npa, .ref nw0, .ref nw1, .ref nw2, .ref nw3, .ref nw4, .ref nw5, .ref nw6, .ref nw7])), (nw0, .inl (cI, 8, .inl nfw)), (nw1, .inl (cI, 8, .inl nfo)), (nw2, .inl (cI, 8, .inl nfr)), (nw3, .inl (cI, 8, .inl nfn)), (nw4, .inl (cI, 8, .inl nft)), (nw5, .inl (cI, 3, .inl nfk)), (nw6, .inl (cI, 3, .inl nfa)), (nw7, .inl (cI, 3, .inl nfb))] := hD
  have c3_0 := hw_3
  have c3_0 : 0 ≤ v3_0.toInt ∧ v3_0.toInt ≤ 16 := c3_0
  exact wr_i (v := r_3) hx hb hr hlocks hS (v3_0, v3_1) (by exact show 0 ≤ (v3_0 : Int32).toInt ∧ (v3_0 : Int32).toInt ≤ 16 from by omega) (hP.sub [0, 1, 2, 3, 4, 5, 6, 7, 8, 9, 10] rfl) (hD.sub [0, 1, 2, 3, 4, 5, 6, 7, 8, 9, 10] (by decide) rfl) dX1_asked_19
set_option maxHeartbeats 4000000 in
set_option maxRecDepth 100000 in
theorem g_X1_gives_4 (l : Launch) (D : va_G) (cI cB cQ : ClassId) (z : ZT) (sz : Nat) (h : Nat) (nw : Nat) (bo : Nat) (nw0 : Nat) (nw1 : Nat) (nw2 : Nat) (nw3 : Nat) (nw4 : Nat) (nw5 : Nat) (nw6 : Nat) (nw7 : Nat) (tc : Int32) (nvi : Int32) (nro : Int32) (nwa : Int32) (nlz : Int32) (nds : Int32) (ndy : Int32) (nga : Int32) (npa : Int32) (k : Int32) (w : Int32) (bf : Nat → Int32) (nfw : Nat → Int32) (nfo : Nat → Int32) (nfr : Nat → Int32) (nfn : Nat → Int32) (nft : Nat → Int32) (nfk : Nat → Int32) (nfa : Nat → Int32) (nfb : Nat → Int32) (nha : ∀ j, j < 3 → 0 ≤ (nfa j).toInt ∧ (nfa j).toInt ≤ 7) (h_tc : 0 ≤ tc.toInt ∧ tc.toInt ≤ 16) (h_nvi : 0 ≤ nvi.toInt ∧ nvi.toInt ≤ 8) (h_nwa : 0 ≤ nwa.toInt ∧ nwa.toInt ≤ 3) (h_w : 0 ≤ w.toInt ∧ w.toInt ≤ 2) : miz l yX1_gives wsX1_gives ({ frames := 12, cells := 0, slots := 0, locals := 277 }) z D cI cB cQ [.ref h, .int k, .int w, .int 4] sz [(h, .inr (1, [.ref nw, .ref bo, .int tc])), (bo, .inl (cI, 16, .inl bf)), (nw, .inr (3, [.int nvi, .int nro, .int nwa, .int nlz, .int nds, .int ndy, .int nga, .int npa, .ref nw0, .ref nw1, .ref nw2, .ref nw3, .ref nw4, .ref nw5, .ref nw6, .ref nw7])), (nw0, .inl (cI, 8, .inl nfw)), (nw1, .inl (cI, 8, .inl nfo)), (nw2, .inl (cI, 8, .inl nfr)), (nw3, .inl (cI, 8, .inl nfn)), (nw4, .inl (cI, 8, .inl nft)), (nw5, .inl (cI, 3, .inl nfk)), (nw6, .inl (cI, 3, .inl nfa)), (nw7, .inl (cI, 3, .inl nfb))] (fun (r : Int32) (u : Int32 × (Nat → Int32)) => (0 ≤ u.1.toInt ∧ u.1.toInt ≤ 16)) (fun u => [(h, .inr (1, [.ref nw, .ref bo, .int u.1])), (bo, .inl (cI, 16, .inl u.2)), (nw, .inr (3, [.int nvi, .int nro, .int nwa, .int nlz, .int nds, .int ndy, .int nga, .int npa, .ref nw0, .ref nw1, .ref nw2, .ref nw3, .ref nw4, .ref nw5, .ref nw6, .ref nw7])), (nw0, .inl (cI, 8, .inl nfw)), (nw1, .inl (cI, 8, .inl nfo)), (nw2, .inl (cI, 8, .inl nfr)), (nw3, .inl (cI, 8, .inl nfn)), (nw4, .inl (cI, 8, .inl nft)), (nw5, .inl (cI, 3, .inl nfk)), (nw6, .inl (cI, 3, .inl nfa)), (nw7, .inl (cI, 3, .inl nfb))]) 0 0 := by
  refine wm_z (cc := cX1_gives) (maxL := 5) (ret := (some .int)) (by decide) rfl (Nat.le_of_ble_eq_true rfl) ?_
  intro p e s m below meth c A ls hZ hAb hx hb hr hml hown hts hlocks hin hP hK hD hN hA hl hS
  have hown : s.vm.findClass RX1 = some m.cls := hown
  have hl : lv_has ls 5 [(0, .ref h), (1, .int k), (2, .int w), (3, .int 4)] := hl
  change W p l e ({ frames := 12, cells := 0, slots := 0, locals := 277 }) s m ([.ref h, .int k, .int w, .int 4] : List Value).toArray below meth c s.heap [] 0 0 (MQ below (va_Qi (fun (r : Int32) (u : Int32 × (Nat → Int32)) => (0 ≤ u.1.toInt ∧ u.1.toInt ≤ 16)) (fun u t => wb D A ((fun u => [(h, .inr (1, [.ref nw, .ref bo, .int u.1])), (bo, .inl (cI, 16, .inl u.2)), (nw, .inr (3, [.int nvi, .int nro, .int nwa, .int nlz, .int nds, .int ndy, .int nga, .int npa, .ref nw0, .ref nw1, .ref nw2, .ref nw3, .ref nw4, .ref nw5, .ref nw6, .ref nw7])), (nw0, .inl (cI, 8, .inl nfw)), (nw1, .inl (cI, 8, .inl nfo)), (nw2, .inl (cI, 8, .inl nfr)), (nw3, .inl (cI, 8, .inl nfn)), (nw4, .inl (cI, 8, .inl nft)), (nw5, .inl (cI, 3, .inl nfk)), (nw6, .inl (cI, 3, .inl nfa)), (nw7, .inl (cI, 3, .inl nfb))]) u) t) A) ([.ref h, .int k, .int w, .int 4] : List Value).toArray s 0 0 A) (F0 m 0 ls [])
  refine lv_iload_n hx hb dX1_gives_0 rfl (lv_at hl 3 rfl) ?_
  refine lv_bipush (v := 8) hx hb dX1_gives_1 (by decide) ?_
  refine lv_icmp_le (tgt := 8) hx hb dX1_gives_3 (by decide) (fun _ => ?_) (fun c9 => absurd (by decide) c9)
  refine lv_aload_n hx hb dX1_gives_8 rfl (lv_at hl 0 rfl) ?_
  refine lv_iload_n hx hb dX1_gives_9 rfl (lv_at hl 1 rfl) ?_
  have k_1 := (g_X1_leaveTrace l D cI cB cQ s.heap.size h nw bo tc k bf (by omega))
  refine wc_v (WC := [(h, .inr (1, [.ref nw, .ref bo, .int tc])), (bo, .inl (cI, 16, .inl bf))]) (WR := [(nw, .inr (3, [.int nvi, .int nro, .int nwa, .int nlz, .int nds, .int ndy, .int nga, .int npa, .ref nw0, .ref nw1, .ref nw2, .ref nw3, .ref nw4, .ref nw5, .ref nw6, .ref nw7])), (nw0, .inl (cI, 8, .inl nfw)), (nw1, .inl (cI, 8, .inl nfo)), (nw2, .inl (cI, 8, .inl nfr)), (nw3, .inl (cI, 8, .inl nfn)), (nw4, .inl (cI, 8, .inl nft)), (nw5, .inl (cI, 3, .inl nfk)), (nw6, .inl (cI, 3, .inl nfa)), (nw7, .inl (cI, 3, .inl nfb))]) (va_runV (As := [.int k]) (rest := []) ⟨hx, hb, hml, hown, hts⟩ k_1 (cwV 1 hts gX1_gives_X1_leaveTrace rfl rfl rfl (by decide +kernel) ⟨Nat.le_of_ble_eq_true rfl, Nat.le_of_ble_eq_true rfl⟩) (wp_V hP hK hD hN [0, 1] (by decide) rfl (ci := 1) rfl rfl) rfl rfl hl.1 rfl (lv_room (Nat.le_of_ble_eq_true rfl)) dX1_gives_10 ⟨Nat.le_of_ble_eq_true rfl, Nat.le_of_ble_eq_true rfl⟩) hP hD hS hA [0, 1] [2, 3, 4, 5, 6, 7, 8, 9, 10] rfl rfl (by decide) (by decide) (fun u_1 H locs hw_1 hP hD hS => ?_)
  clear k_1
  obtain ⟨v1_0, v1_1⟩ := u_1
  have hP : va_P D kl [(nw, .inr (3, [.int nvi, .int nro, .int nwa, .int nlz, .int nds, .int ndy, .int nga, .int npa, .ref nw0, .ref nw1, .ref nw2, .ref nw3, .ref nw4, .ref nw5, .ref nw6, .ref nw7])), (nw0, .inl (cI, 8, .inl nfw)), (nw1, .inl (cI, 8, .inl nfo)), (nw2, .inl (cI, 8, .inl nfr)), (nw3, .inl (cI, 8, .inl nfn)), (nw4, .inl (cI, 8, .inl nft)), (nw5, .inl (cI, 3, .inl nfk)), (nw6, .inl (cI, 3, .inl nfa)), (nw7, .inl (cI, 3, .inl nfb)), (h, .inr (1, [.ref nw, .ref bo, .int v1_0])), (bo, .inl (cI, 16, .inl v1_1))] H := hP
  have hD : va_D A [(nw, .inr (3, [.int nvi, .int nro, .int nwa, .int nlz, .int nds, .int ndy, .int nga, .int npa, .ref nw0, .ref nw1, .ref nw2, .ref nw3, .ref nw4, .ref nw5, .ref nw6, .ref nw7])), (nw0, .inl (cI, 8, .inl nfw)), (nw1, .inl (cI, 8, .inl nfo)), (nw2, .inl (cI, 8, .inl nfr)), (nw3, .inl (cI, 8, .inl nfn)), (nw4, .inl (cI, 8, .inl nft)), (nw5, .inl (cI, 3, .inl nfk)), (nw6, .inl (cI, 3, .inl nfa)), (nw7, .inl (cI, 3, .inl nfb)), (h, .inr (1, [.ref nw, .ref bo, .int v1_0])), (bo, .inl (cI, 16, .inl v1_1))] := hD
  have c1_0 := hw_1
  have c1_0 : 0 ≤ v1_0.toInt ∧ v1_0.toInt ≤ 16 := c1_0
  refine lv_iload_n hx hb dX1_gives_13 rfl (lv_at hl 3 rfl) ?_
  refine lv_iconst (v := 1) hx hb dX1_gives_14 (by decide) ?_
  refine lv_iadd hx hb dX1_gives_15 ?_
  refine lv_topi (fun x_2 ex_2 => ?_)
  obtain rfl : x_2 = 5 := ex_2.trans (by decide)
  refine lv_istore (lv' := [(4, .int 5), (0, .ref h), (1, .int k), (2, .int w), (3, .int 4)]) hx hb dX1_gives_16 hl (by decide) rfl (fun ls hl => ?_)
  refine lv_iload_n hx hb dX1_gives_18 rfl (lv_at hl 2 rfl) ?_
  by_cases f_3 : k.toInt < 10 ∨ 24 < k.toInt
  · refine lv_tableOut (tgt := 232) hx hb dX1_gives_19 f_3 (by decide) ?_
    refine lv_iconst (v := 0) hx hb dX1_gives_232 (by decide) ?_
    exact wr_i (v := 0) hx hb hr hlocks hS (v1_0, v1_1) (by exact show 0 ≤ (v1_0 : Int32).toInt ∧ (v1_0 : Int32).toInt ≤ 16 from by omega) (hP.sub [9, 10, 0, 1, 2, 3, 4, 5, 6, 7, 8] rfl) (hD.sub [9, 10, 0, 1, 2, 3, 4, 5, 6, 7, 8] (by decide) rfl) dX1_gives_233
  · rcases (show k.toInt = 10 ∨ k.toInt = 11 ∨ k.toInt = 12 ∨ k.toInt = 13 ∨ k.toInt = 14 ∨ k.toInt = 15 ∨ k.toInt = 16 ∨ k.toInt = 17 ∨ k.toInt = 18 ∨ k.toInt = 19 ∨ k.toInt = 20 ∨ k.toInt = 21 ∨ k.toInt = 22 ∨ k.toInt = 23 ∨ k.toInt = 24 by omega) with g_3 | g_3 | g_3 | g_3 | g_3 | g_3 | g_3 | g_3 | g_3 | g_3 | g_3 | g_3 | g_3 | g_3 | g_3
    · refine lv_tableIn (off := 73) (tgt := 92) hx hb dX1_gives_19 (by omega) (by omega) (by rw [g_3]; rfl) (by decide) ?_
      refine lv_aload_n hx hb dX1_gives_92 rfl (lv_at hl 1 rfl) ?_
      refine va_get (D := D) (ci := 1) (v := .ref nw) (C := RX1) (T := TX1) (N := 3) hx hb hts (fun _ h => List.mem_cons_of_mem _ (List.mem_append_left _ (List.mem_append_right _ h))) hown hK hP 9 rfl rfl 0 (by decide) (hts (.fieldLink RX1 19 "WinterWalk$Asks" "land" "LWinterWalk$Land;") (List.mem_of_getElem? (i := 1) rfl)) (fun _ h9 => h9) rfl dX1_gives_93 ?_
      refine va_get (D := D) (ci := 3) (v := .ref nw6) (C := RX4) (T := TX4) (N := 16) hx hb hts (fun _ h => List.mem_cons_of_mem _ (List.mem_append_right _ h)) hown hK hP 0 rfl rfl 14 (by decide) (hts (.fieldLink RX1 59 "WinterWalk$Land" "at" "[I") (List.mem_of_getElem? (i := 2) rfl)) (fun _ h9 => h9) rfl dX1_gives_96 ?_
      refine lv_iload_n hx hb dX1_gives_99 rfl (lv_at hl 3 rfl) ?_
      refine va_iald hx hb hK hP 7 0 rfl rfl (zi_in (by omega) (by omega)) dX1_gives_100 ?_
      refine lv_topi (fun x_4 ex_4 => ?_)
      have f_4 : 0 ≤ x_4.toInt ∧ x_4.toInt ≤ 7 := by rw [ex_4]; exact nha _ (zi_cl (by omega) (by omega))
      clear ex_4
      exact wr_i (v := x_4) hx hb hr hlocks hS (v1_0, v1_1) (by exact show 0 ≤ (v1_0 : Int32).toInt ∧ (v1_0 : Int32).toInt ≤ 16 from by omega) (hP.sub [9, 10, 0, 1, 2, 3, 4, 5, 6, 7, 8] rfl) (hD.sub [9, 10, 0, 1, 2, 3, 4, 5, 6, 7, 8] (by decide) rfl) dX1_gives_101
    · refine lv_tableIn (off := 83) (tgt := 102) hx hb dX1_gives_19 (by omega) (by omega) (by rw [g_3]; rfl) (by decide) ?_
      refine lv_aload_n hx hb dX1_gives_102 rfl (lv_at hl 1 rfl) ?_
      refine lv_bipush (v := 10) hx hb dX1_gives_103 (by decide) ?_
      refine lv_iload_n hx hb dX1_gives_105 rfl (lv_at hl 3 rfl) ?_
      refine lv_iload hx hb dX1_gives_106 (lv_at hl 0 rfl) ?_
      have k_5 := (g_X1_gives_5 l D cI cB cQ z H.size h nw bo nw0 nw1 nw2 nw3 nw4 nw5 nw6 nw7 v1_0 nvi nro nwa nlz nds ndy nga npa 10 w v1_1 nfw nfo nfr nfn nft nfk nfa nfb nha (by omega) (by omega) (by omega) (by omega))
      refine wc_i (WC := [(h, .inr (1, [.ref nw, .ref bo, .int v1_0])), (bo, .inl (cI, 16, .inl v1_1)), (nw, .inr (3, [.int nvi, .int nro, .int nwa, .int nlz, .int nds, .int ndy, .int nga, .int npa, .ref nw0, .ref nw1, .ref nw2, .ref nw3, .ref nw4, .ref nw5, .ref nw6, .ref nw7])), (nw0, .inl (cI, 8, .inl nfw)), (nw1, .inl (cI, 8, .inl nfo)), (nw2, .inl (cI, 8, .inl nfr)), (nw3, .inl (cI, 8, .inl nfn)), (nw4, .inl (cI, 8, .inl nft)), (nw5, .inl (cI, 3, .inl nfk)), (nw6, .inl (cI, 3, .inl nfa)), (nw7, .inl (cI, 3, .inl nfb))]) (WR := []) (va_runV (As := [.int 10, .int w, .int 5]) (rest := []) ⟨hx, hb, hml, hown, hts⟩ k_5 (cwV 3 hts gX1_gives_X1_gives rfl rfl rfl (by decide +kernel) ⟨Nat.le_of_ble_eq_true rfl, Nat.le_of_ble_eq_true rfl⟩) (wpz_V hZ hS hAb hP hK hD hN [9, 10, 0, 1, 2, 3, 4, 5, 6, 7, 8] (by decide) rfl (ci := 1) rfl rfl) rfl rfl hl.1 rfl (lv_room (Nat.le_of_ble_eq_true rfl)) dX1_gives_108 ⟨Nat.le_of_ble_eq_true rfl, Nat.le_of_ble_eq_true rfl⟩) hP hD hS hA [9, 10, 0, 1, 2, 3, 4, 5, 6, 7, 8] [] rfl rfl (by decide) (by decide) (fun r_5 u_5 H locs hw_5 hP hD hS => ?_)
      clear k_5
      obtain ⟨v5_0, v5_1⟩ := u_5
      have hP : va_P D kl [(h, .inr (1, [.ref nw, .ref bo, .int v5_0])), (bo, .inl (cI, 16, .inl v5_1)), (nw, .inr (3, [.int nvi, .int nro, .int nwa, .int nlz, .int nds, .int ndy, .int nga, .int npa, .ref nw0, .ref nw1, .ref nw2, .ref nw3, .ref nw4, .ref nw5, .ref nw6, .ref nw7])), (nw0, .inl (cI, 8, .inl nfw)), (nw1, .inl (cI, 8, .inl nfo)), (nw2, .inl (cI, 8, .inl nfr)), (nw3, .inl (cI, 8, .inl nfn)), (nw4, .inl (cI, 8, .inl nft)), (nw5, .inl (cI, 3, .inl nfk)), (nw6, .inl (cI, 3, .inl nfa)), (nw7, .inl (cI, 3, .inl nfb))] H := hP
      have hD : va_D A [(h, .inr (1, [.ref nw, .ref bo, .int v5_0])), (bo, .inl (cI, 16, .inl v5_1)), (nw, .inr (3, [.int nvi, .int nro, .int nwa, .int nlz, .int nds, .int ndy, .int nga, .int npa, .ref nw0, .ref nw1, .ref nw2, .ref nw3, .ref nw4, .ref nw5, .ref nw6, .ref nw7])), (nw0, .inl (cI, 8, .inl nfw)), (nw1, .inl (cI, 8, .inl nfo)), (nw2, .inl (cI, 8, .inl nfr)), (nw3, .inl (cI, 8, .inl nfn)), (nw4, .inl (cI, 8, .inl nft)), (nw5, .inl (cI, 3, .inl nfk)), (nw6, .inl (cI, 3, .inl nfa)), (nw7, .inl (cI, 3, .inl nfb))] := hD
      have c5_0 := hw_5
      have c5_0 : 0 ≤ v5_0.toInt ∧ v5_0.toInt ≤ 16 := c5_0
      refine lv_aload_n hx hb dX1_gives_111 rfl (lv_at hl 1 rfl) ?_
      refine lv_iload_n hx hb dX1_gives_112 rfl (lv_at hl 3 rfl) ?_
      refine lv_iconst (v := 1) hx hb dX1_gives_113 (by decide) ?_
      refine lv_iload hx hb dX1_gives_114 (lv_at hl 0 rfl) ?_
      have k_6 := (g_X1_asked_5 l D cI cB cQ z H.size h nw bo nw0 nw1 nw2 nw3 nw4 nw5 nw6 nw7 v5_0 nvi nro nwa nlz nds ndy nga npa w 1 v5_1 nfw nfo nfr nfn nft nfk nfa nfb nha (by omega) (by omega) (by omega) (by omega))
      refine wc_i (WC := [(h, .inr (1, [.ref nw, .ref bo, .int v5_0])), (bo, .inl (cI, 16, .inl v5_1)), (nw, .inr (3, [.int nvi, .int nro, .int nwa, .int nlz, .int nds, .int ndy, .int nga, .int npa, .ref nw0, .ref nw1, .ref nw2, .ref nw3, .ref nw4, .ref nw5, .ref nw6, .ref nw7])), (nw0, .inl (cI, 8, .inl nfw)), (nw1, .inl (cI, 8, .inl nfo)), (nw2, .inl (cI, 8, .inl nfr)), (nw3, .inl (cI, 8, .inl nfn)), (nw4, .inl (cI, 8, .inl nft)), (nw5, .inl (cI, 3, .inl nfk)), (nw6, .inl (cI, 3, .inl nfa)), (nw7, .inl (cI, 3, .inl nfb))]) (WR := []) (va_runV (As := [.int w, .int 1, .int 5]) (rest := [.int r_5]) ⟨hx, hb, hml, hown, hts⟩ k_6 (cwV 3 hts gX1_gives_X1_asked rfl rfl rfl (by decide +kernel) ⟨Nat.le_of_ble_eq_true rfl, Nat.le_of_ble_eq_true rfl⟩) (wpz_V hZ hS hAb hP hK hD hN [0, 1, 2, 3, 4, 5, 6, 7, 8, 9, 10] (by decide) rfl (ci := 1) rfl rfl) rfl rfl hl.1 rfl (lv_room (Nat.le_of_ble_eq_true rfl)) dX1_gives_116 ⟨Nat.le_of_ble_eq_true rfl, Nat.le_of_ble_eq_true rfl⟩) hP hD hS hA [0, 1, 2, 3, 4, 5, 6, 7, 8, 9, 10] [] rfl rfl (by decide) (by decide) (fun r_6 u_6 H locs hw_6 hP hD hS => ?_)
      clear k_6
      obtain ⟨v6_0, v6_1⟩ := u_6
      have hP : va_P D kl [(h, .inr (1, [.ref nw, .ref bo, .int v6_0])), (bo, .inl (cI, 16, .inl v6_1)), (nw, .inr (3, [.int nvi, .int nro, .int nwa, .int nlz, .int nds, .int ndy, .int nga, .int npa, .ref nw0, .ref nw1, .ref nw2, .ref nw3, .ref nw4, .ref nw5, .ref nw6, .ref nw7])), (nw0, .inl (cI, 8, .inl nfw)), (nw1, .inl (cI, 8, .inl nfo)), (nw2, .inl (cI, 8, .inl nfr)), (nw3, .inl (cI, 8, .inl nfn)), (nw4, .inl (cI, 8, .inl nft)), (nw5, .inl (cI, 3, .inl nfk)), (nw6, .inl (cI, 3, .inl nfa)), (nw7, .inl (cI, 3, .inl nfb))] H := hP
      have hD : va_D A [(h, .inr (1, [.ref nw, .ref bo, .int v6_0])), (bo, .inl (cI, 16, .inl v6_1)), (nw, .inr (3, [.int nvi, .int nro, .int nwa, .int nlz, .int nds, .int ndy, .int nga, .int npa, .ref nw0, .ref nw1, .ref nw2, .ref nw3, .ref nw4, .ref nw5, .ref nw6, .ref nw7])), (nw0, .inl (cI, 8, .inl nfw)), (nw1, .inl (cI, 8, .inl nfo)), (nw2, .inl (cI, 8, .inl nfr)), (nw3, .inl (cI, 8, .inl nfn)), (nw4, .inl (cI, 8, .inl nft)), (nw5, .inl (cI, 3, .inl nfk)), (nw6, .inl (cI, 3, .inl nfa)), (nw7, .inl (cI, 3, .inl nfb))] := hD
      have c6_0 := hw_6
      have c6_0 : 0 ≤ v6_0.toInt ∧ v6_0.toInt ≤ 16 := c6_0
      refine lv_iadd hx hb dX1_gives_119 ?_
      refine lv_topi (fun x_7 ex_7 => ?_)
      clear ex_7
      exact wr_i (v := x_7) hx hb hr hlocks hS (v6_0, v6_1) (by exact show 0 ≤ (v6_0 : Int32).toInt ∧ (v6_0 : Int32).toInt ≤ 16 from by omega) (hP.sub [0, 1, 2, 3, 4, 5, 6, 7, 8, 9, 10] rfl) (hD.sub [0, 1, 2, 3, 4, 5, 6, 7, 8, 9, 10] (by decide) rfl) dX1_gives_120
    · refine lv_tableIn (off := 102) (tgt := 121) hx hb dX1_gives_19 (by omega) (by omega) (by rw [g_3]; rfl) (by decide) ?_
      refine lv_aload_n hx hb dX1_gives_121 rfl (lv_at hl 1 rfl) ?_
      refine lv_bipush (v := 11) hx hb dX1_gives_122 (by decide) ?_
      refine lv_iload_n hx hb dX1_gives_124 rfl (lv_at hl 3 rfl) ?_
      refine lv_iload hx hb dX1_gives_125 (lv_at hl 0 rfl) ?_
      have k_8 := (g_X1_gives_5 l D cI cB cQ z H.size h nw bo nw0 nw1 nw2 nw3 nw4 nw5 nw6 nw7 v1_0 nvi nro nwa nlz nds ndy nga npa 11 w v1_1 nfw nfo nfr nfn nft nfk nfa nfb nha (by omega) (by omega) (by omega) (by omega))
      refine wc_i (WC := [(h, .inr (1, [.ref nw, .ref bo, .int v1_0])), (bo, .inl (cI, 16, .inl v1_1)), (nw, .inr (3, [.int nvi, .int nro, .int nwa, .int nlz, .int nds, .int ndy, .int nga, .int npa, .ref nw0, .ref nw1, .ref nw2, .ref nw3, .ref nw4, .ref nw5, .ref nw6, .ref nw7])), (nw0, .inl (cI, 8, .inl nfw)), (nw1, .inl (cI, 8, .inl nfo)), (nw2, .inl (cI, 8, .inl nfr)), (nw3, .inl (cI, 8, .inl nfn)), (nw4, .inl (cI, 8, .inl nft)), (nw5, .inl (cI, 3, .inl nfk)), (nw6, .inl (cI, 3, .inl nfa)), (nw7, .inl (cI, 3, .inl nfb))]) (WR := []) (va_runV (As := [.int 11, .int w, .int 5]) (rest := []) ⟨hx, hb, hml, hown, hts⟩ k_8 (cwV 3 hts gX1_gives_X1_gives rfl rfl rfl (by decide +kernel) ⟨Nat.le_of_ble_eq_true rfl, Nat.le_of_ble_eq_true rfl⟩) (wpz_V hZ hS hAb hP hK hD hN [9, 10, 0, 1, 2, 3, 4, 5, 6, 7, 8] (by decide) rfl (ci := 1) rfl rfl) rfl rfl hl.1 rfl (lv_room (Nat.le_of_ble_eq_true rfl)) dX1_gives_127 ⟨Nat.le_of_ble_eq_true rfl, Nat.le_of_ble_eq_true rfl⟩) hP hD hS hA [9, 10, 0, 1, 2, 3, 4, 5, 6, 7, 8] [] rfl rfl (by decide) (by decide) (fun r_8 u_8 H locs hw_8 hP hD hS => ?_)
      clear k_8
      obtain ⟨v8_0, v8_1⟩ := u_8
      have hP : va_P D kl [(h, .inr (1, [.ref nw, .ref bo, .int v8_0])), (bo, .inl (cI, 16, .inl v8_1)), (nw, .inr (3, [.int nvi, .int nro, .int nwa, .int nlz, .int nds, .int ndy, .int nga, .int npa, .ref nw0, .ref nw1, .ref nw2, .ref nw3, .ref nw4, .ref nw5, .ref nw6, .ref nw7])), (nw0, .inl (cI, 8, .inl nfw)), (nw1, .inl (cI, 8, .inl nfo)), (nw2, .inl (cI, 8, .inl nfr)), (nw3, .inl (cI, 8, .inl nfn)), (nw4, .inl (cI, 8, .inl nft)), (nw5, .inl (cI, 3, .inl nfk)), (nw6, .inl (cI, 3, .inl nfa)), (nw7, .inl (cI, 3, .inl nfb))] H := hP
      have hD : va_D A [(h, .inr (1, [.ref nw, .ref bo, .int v8_0])), (bo, .inl (cI, 16, .inl v8_1)), (nw, .inr (3, [.int nvi, .int nro, .int nwa, .int nlz, .int nds, .int ndy, .int nga, .int npa, .ref nw0, .ref nw1, .ref nw2, .ref nw3, .ref nw4, .ref nw5, .ref nw6, .ref nw7])), (nw0, .inl (cI, 8, .inl nfw)), (nw1, .inl (cI, 8, .inl nfo)), (nw2, .inl (cI, 8, .inl nfr)), (nw3, .inl (cI, 8, .inl nfn)), (nw4, .inl (cI, 8, .inl nft)), (nw5, .inl (cI, 3, .inl nfk)), (nw6, .inl (cI, 3, .inl nfa)), (nw7, .inl (cI, 3, .inl nfb))] := hD
      have c8_0 := hw_8
      have c8_0 : 0 ≤ v8_0.toInt ∧ v8_0.toInt ≤ 16 := c8_0
      refine lv_ineg hx hb dX1_gives_130 ?_
      refine lv_topi (fun x_9 ex_9 => ?_)
      clear ex_9
      exact wr_i (v := x_9) hx hb hr hlocks hS (v8_0, v8_1) (by exact show 0 ≤ (v8_0 : Int32).toInt ∧ (v8_0 : Int32).toInt ≤ 16 from by omega) (hP.sub [0, 1, 2, 3, 4, 5, 6, 7, 8, 9, 10] rfl) (hD.sub [0, 1, 2, 3, 4, 5, 6, 7, 8, 9, 10] (by decide) rfl) dX1_gives_131
    · refine lv_tableIn (off := 113) (tgt := 132) hx hb dX1_gives_19 (by omega) (by omega) (by rw [g_3]; rfl) (by decide) ?_
      refine lv_aload_n hx hb dX1_gives_132 rfl (lv_at hl 1 rfl) ?_
      refine lv_bipush (v := 10) hx hb dX1_gives_133 (by decide) ?_
      refine lv_iload_n hx hb dX1_gives_135 rfl (lv_at hl 3 rfl) ?_
      refine lv_iload hx hb dX1_gives_136 (lv_at hl 0 rfl) ?_
      have k_10 := (g_X1_gives_5 l D cI cB cQ z H.size h nw bo nw0 nw1 nw2 nw3 nw4 nw5 nw6 nw7 v1_0 nvi nro nwa nlz nds ndy nga npa 10 w v1_1 nfw nfo nfr nfn nft nfk nfa nfb nha (by omega) (by omega) (by omega) (by omega))
      refine wc_i (WC := [(h, .inr (1, [.ref nw, .ref bo, .int v1_0])), (bo, .inl (cI, 16, .inl v1_1)), (nw, .inr (3, [.int nvi, .int nro, .int nwa, .int nlz, .int nds, .int ndy, .int nga, .int npa, .ref nw0, .ref nw1, .ref nw2, .ref nw3, .ref nw4, .ref nw5, .ref nw6, .ref nw7])), (nw0, .inl (cI, 8, .inl nfw)), (nw1, .inl (cI, 8, .inl nfo)), (nw2, .inl (cI, 8, .inl nfr)), (nw3, .inl (cI, 8, .inl nfn)), (nw4, .inl (cI, 8, .inl nft)), (nw5, .inl (cI, 3, .inl nfk)), (nw6, .inl (cI, 3, .inl nfa)), (nw7, .inl (cI, 3, .inl nfb))]) (WR := []) (va_runV (As := [.int 10, .int w, .int 5]) (rest := []) ⟨hx, hb, hml, hown, hts⟩ k_10 (cwV 3 hts gX1_gives_X1_gives rfl rfl rfl (by decide +kernel) ⟨Nat.le_of_ble_eq_true rfl, Nat.le_of_ble_eq_true rfl⟩) (wpz_V hZ hS hAb hP hK hD hN [9, 10, 0, 1, 2, 3, 4, 5, 6, 7, 8] (by decide) rfl (ci := 1) rfl rfl) rfl rfl hl.1 rfl (lv_room (Nat.le_of_ble_eq_true rfl)) dX1_gives_138 ⟨Nat.le_of_ble_eq_true rfl, Nat.le_of_ble_eq_true rfl⟩) hP hD hS hA [9, 10, 0, 1, 2, 3, 4, 5, 6, 7, 8] [] rfl rfl (by decide) (by decide) (fun r_10 u_10 H locs hw_10 hP hD hS => ?_)
      clear k_10
      obtain ⟨v10_0, v10_1⟩ := u_10
      have hP : va_P D kl [(h, .inr (1, [.ref nw, .ref bo, .int v10_0])), (bo, .inl (cI, 16, .inl v10_1)), (nw, .inr (3, [.int nvi, .int nro, .int nwa, .int nlz, .int nds, .int ndy, .int nga, .int npa, .ref nw0, .ref nw1, .ref nw2, .ref nw3, .ref nw4, .ref nw5, .ref nw6, .ref nw7])), (nw0, .inl (cI, 8, .inl nfw)), (nw1, .inl (cI, 8, .inl nfo)), (nw2, .inl (cI, 8, .inl nfr)), (nw3, .inl (cI, 8, .inl nfn)), (nw4, .inl (cI, 8, .inl nft)), (nw5, .inl (cI, 3, .inl nfk)), (nw6, .inl (cI, 3, .inl nfa)), (nw7, .inl (cI, 3, .inl nfb))] H := hP
      have hD : va_D A [(h, .inr (1, [.ref nw, .ref bo, .int v10_0])), (bo, .inl (cI, 16, .inl v10_1)), (nw, .inr (3, [.int nvi, .int nro, .int nwa, .int nlz, .int nds, .int ndy, .int nga, .int npa, .ref nw0, .ref nw1, .ref nw2, .ref nw3, .ref nw4, .ref nw5, .ref nw6, .ref nw7])), (nw0, .inl (cI, 8, .inl nfw)), (nw1, .inl (cI, 8, .inl nfo)), (nw2, .inl (cI, 8, .inl nfr)), (nw3, .inl (cI, 8, .inl nfn)), (nw4, .inl (cI, 8, .inl nft)), (nw5, .inl (cI, 3, .inl nfk)), (nw6, .inl (cI, 3, .inl nfa)), (nw7, .inl (cI, 3, .inl nfb))] := hD
      have c10_0 := hw_10
      have c10_0 : 0 ≤ v10_0.toInt ∧ v10_0.toInt ≤ 16 := c10_0
      refine lv_bipush (v := 100) hx hb dX1_gives_141 (by decide) ?_
      refine lv_isub hx hb dX1_gives_143 ?_
      refine lv_topi (fun x_11 ex_11 => ?_)
      clear ex_11
      exact wr_i (v := x_11) hx hb hr hlocks hS (v10_0, v10_1) (by exact show 0 ≤ (v10_0 : Int32).toInt ∧ (v10_0 : Int32).toInt ≤ 16 from by omega) (hP.sub [0, 1, 2, 3, 4, 5, 6, 7, 8, 9, 10] rfl) (hD.sub [0, 1, 2, 3, 4, 5, 6, 7, 8, 9, 10] (by decide) rfl) dX1_gives_144
    · refine lv_tableIn (off := 126) (tgt := 145) hx hb dX1_gives_19 (by omega) (by omega) (by rw [g_3]; rfl) (by decide) ?_
      refine lv_iconst (v := 2) hx hb dX1_gives_145 (by decide) ?_
      refine lv_aload_n hx hb dX1_gives_146 rfl (lv_at hl 1 rfl) ?_
      refine lv_bipush (v := 13) hx hb dX1_gives_147 (by decide) ?_
      refine lv_iload_n hx hb dX1_gives_149 rfl (lv_at hl 3 rfl) ?_
      refine lv_iload hx hb dX1_gives_150 (lv_at hl 0 rfl) ?_
      have k_12 := (g_X1_gives_5 l D cI cB cQ z H.size h nw bo nw0 nw1 nw2 nw3 nw4 nw5 nw6 nw7 v1_0 nvi nro nwa nlz nds ndy nga npa 13 w v1_1 nfw nfo nfr nfn nft nfk nfa nfb nha (by omega) (by omega) (by omega) (by omega))
      refine wc_i (WC := [(h, .inr (1, [.ref nw, .ref bo, .int v1_0])), (bo, .inl (cI, 16, .inl v1_1)), (nw, .inr (3, [.int nvi, .int nro, .int nwa, .int nlz, .int nds, .int ndy, .int nga, .int npa, .ref nw0, .ref nw1, .ref nw2, .ref nw3, .ref nw4, .ref nw5, .ref nw6, .ref nw7])), (nw0, .inl (cI, 8, .inl nfw)), (nw1, .inl (cI, 8, .inl nfo)), (nw2, .inl (cI, 8, .inl nfr)), (nw3, .inl (cI, 8, .inl nfn)), (nw4, .inl (cI, 8, .inl nft)), (nw5, .inl (cI, 3, .inl nfk)), (nw6, .inl (cI, 3, .inl nfa)), (nw7, .inl (cI, 3, .inl nfb))]) (WR := []) (va_runV (As := [.int 13, .int w, .int 5]) (rest := [.int 2]) ⟨hx, hb, hml, hown, hts⟩ k_12 (cwV 3 hts gX1_gives_X1_gives rfl rfl rfl (by decide +kernel) ⟨Nat.le_of_ble_eq_true rfl, Nat.le_of_ble_eq_true rfl⟩) (wpz_V hZ hS hAb hP hK hD hN [9, 10, 0, 1, 2, 3, 4, 5, 6, 7, 8] (by decide) rfl (ci := 1) rfl rfl) rfl rfl hl.1 rfl (lv_room (Nat.le_of_ble_eq_true rfl)) dX1_gives_152 ⟨Nat.le_of_ble_eq_true rfl, Nat.le_of_ble_eq_true rfl⟩) hP hD hS hA [9, 10, 0, 1, 2, 3, 4, 5, 6, 7, 8] [] rfl rfl (by decide) (by decide) (fun r_12 u_12 H locs hw_12 hP hD hS => ?_)
      clear k_12
      obtain ⟨v12_0, v12_1⟩ := u_12
      have hP : va_P D kl [(h, .inr (1, [.ref nw, .ref bo, .int v12_0])), (bo, .inl (cI, 16, .inl v12_1)), (nw, .inr (3, [.int nvi, .int nro, .int nwa, .int nlz, .int nds, .int ndy, .int nga, .int npa, .ref nw0, .ref nw1, .ref nw2, .ref nw3, .ref nw4, .ref nw5, .ref nw6, .ref nw7])), (nw0, .inl (cI, 8, .inl nfw)), (nw1, .inl (cI, 8, .inl nfo)), (nw2, .inl (cI, 8, .inl nfr)), (nw3, .inl (cI, 8, .inl nfn)), (nw4, .inl (cI, 8, .inl nft)), (nw5, .inl (cI, 3, .inl nfk)), (nw6, .inl (cI, 3, .inl nfa)), (nw7, .inl (cI, 3, .inl nfb))] H := hP
      have hD : va_D A [(h, .inr (1, [.ref nw, .ref bo, .int v12_0])), (bo, .inl (cI, 16, .inl v12_1)), (nw, .inr (3, [.int nvi, .int nro, .int nwa, .int nlz, .int nds, .int ndy, .int nga, .int npa, .ref nw0, .ref nw1, .ref nw2, .ref nw3, .ref nw4, .ref nw5, .ref nw6, .ref nw7])), (nw0, .inl (cI, 8, .inl nfw)), (nw1, .inl (cI, 8, .inl nfo)), (nw2, .inl (cI, 8, .inl nfr)), (nw3, .inl (cI, 8, .inl nfn)), (nw4, .inl (cI, 8, .inl nft)), (nw5, .inl (cI, 3, .inl nfk)), (nw6, .inl (cI, 3, .inl nfa)), (nw7, .inl (cI, 3, .inl nfb))] := hD
      have c12_0 := hw_12
      have c12_0 : 0 ≤ v12_0.toInt ∧ v12_0.toInt ≤ 16 := c12_0
      refine lv_imul hx hb dX1_gives_155 ?_
      refine lv_topi (fun x_13 ex_13 => ?_)
      clear ex_13
      exact wr_i (v := x_13) hx hb hr hlocks hS (v12_0, v12_1) (by exact show 0 ≤ (v12_0 : Int32).toInt ∧ (v12_0 : Int32).toInt ≤ 16 from by omega) (hP.sub [0, 1, 2, 3, 4, 5, 6, 7, 8, 9, 10] rfl) (hD.sub [0, 1, 2, 3, 4, 5, 6, 7, 8, 9, 10] (by decide) rfl) dX1_gives_156
    · refine lv_tableIn (off := 213) (tgt := 232) hx hb dX1_gives_19 (by omega) (by omega) (by rw [g_3]; rfl) (by decide) ?_
      refine lv_iconst (v := 0) hx hb dX1_gives_232 (by decide) ?_
      exact wr_i (v := 0) hx hb hr hlocks hS (v1_0, v1_1) (by exact show 0 ≤ (v1_0 : Int32).toInt ∧ (v1_0 : Int32).toInt ≤ 16 from by omega) (hP.sub [9, 10, 0, 1, 2, 3, 4, 5, 6, 7, 8] rfl) (hD.sub [9, 10, 0, 1, 2, 3, 4, 5, 6, 7, 8] (by decide) rfl) dX1_gives_233
    · refine lv_tableIn (off := 213) (tgt := 232) hx hb dX1_gives_19 (by omega) (by omega) (by rw [g_3]; rfl) (by decide) ?_
      refine lv_iconst (v := 0) hx hb dX1_gives_232 (by decide) ?_
      exact wr_i (v := 0) hx hb hr hlocks hS (v1_0, v1_1) (by exact show 0 ≤ (v1_0 : Int32).toInt ∧ (v1_0 : Int32).toInt ≤ 16 from by omega) (hP.sub [9, 10, 0, 1, 2, 3, 4, 5, 6, 7, 8] rfl) (hD.sub [9, 10, 0, 1, 2, 3, 4, 5, 6, 7, 8] (by decide) rfl) dX1_gives_233
    · refine lv_tableIn (off := 213) (tgt := 232) hx hb dX1_gives_19 (by omega) (by omega) (by rw [g_3]; rfl) (by decide) ?_
      refine lv_iconst (v := 0) hx hb dX1_gives_232 (by decide) ?_
      exact wr_i (v := 0) hx hb hr hlocks hS (v1_0, v1_1) (by exact show 0 ≤ (v1_0 : Int32).toInt ∧ (v1_0 : Int32).toInt ≤ 16 from by omega) (hP.sub [9, 10, 0, 1, 2, 3, 4, 5, 6, 7, 8] rfl) (hD.sub [9, 10, 0, 1, 2, 3, 4, 5, 6, 7, 8] (by decide) rfl) dX1_gives_233
    · refine lv_tableIn (off := 213) (tgt := 232) hx hb dX1_gives_19 (by omega) (by omega) (by rw [g_3]; rfl) (by decide) ?_
      refine lv_iconst (v := 0) hx hb dX1_gives_232 (by decide) ?_
      exact wr_i (v := 0) hx hb hr hlocks hS (v1_0, v1_1) (by exact show 0 ≤ (v1_0 : Int32).toInt ∧ (v1_0 : Int32).toInt ≤ 16 from by omega) (hP.sub [9, 10, 0, 1, 2, 3, 4, 5, 6, 7, 8] rfl) (hD.sub [9, 10, 0, 1, 2, 3, 4, 5, 6, 7, 8] (by decide) rfl) dX1_gives_233
    · refine lv_tableIn (off := 213) (tgt := 232) hx hb dX1_gives_19 (by omega) (by omega) (by rw [g_3]; rfl) (by decide) ?_
      refine lv_iconst (v := 0) hx hb dX1_gives_232 (by decide) ?_
      exact wr_i (v := 0) hx hb hr hlocks hS (v1_0, v1_1) (by exact show 0 ≤ (v1_0 : Int32).toInt ∧ (v1_0 : Int32).toInt ≤ 16 from by omega) (hP.sub [9, 10, 0, 1, 2, 3, 4, 5, 6, 7, 8] rfl) (hD.sub [9, 10, 0, 1, 2, 3, 4, 5, 6, 7, 8] (by decide) rfl) dX1_gives_233
    · refine lv_tableIn (off := 138) (tgt := 157) hx hb dX1_gives_19 (by omega) (by omega) (by rw [g_3]; rfl) (by decide) ?_
      refine lv_iload_n hx hb dX1_gives_157 rfl (lv_at hl 3 rfl) ?_
      exact wr_i (v := w) hx hb hr hlocks hS (v1_0, v1_1) (by exact show 0 ≤ (v1_0 : Int32).toInt ∧ (v1_0 : Int32).toInt ≤ 16 from by omega) (hP.sub [9, 10, 0, 1, 2, 3, 4, 5, 6, 7, 8] rfl) (hD.sub [9, 10, 0, 1, 2, 3, 4, 5, 6, 7, 8] (by decide) rfl) dX1_gives_158
    · refine lv_tableIn (off := 140) (tgt := 159) hx hb dX1_gives_19 (by omega) (by omega) (by rw [g_3]; rfl) (by decide) ?_
      refine lv_aload_n hx hb dX1_gives_159 rfl (lv_at hl 1 rfl) ?_
      refine lv_bipush (v := 20) hx hb dX1_gives_160 (by decide) ?_
      refine lv_iload_n hx hb dX1_gives_162 rfl (lv_at hl 3 rfl) ?_
      refine lv_iload hx hb dX1_gives_163 (lv_at hl 0 rfl) ?_
      have k_14 := (g_X1_gives_5 l D cI cB cQ z H.size h nw bo nw0 nw1 nw2 nw3 nw4 nw5 nw6 nw7 v1_0 nvi nro nwa nlz nds ndy nga npa 20 w v1_1 nfw nfo nfr nfn nft nfk nfa nfb nha (by omega) (by omega) (by omega) (by omega))
      refine wc_i (WC := [(h, .inr (1, [.ref nw, .ref bo, .int v1_0])), (bo, .inl (cI, 16, .inl v1_1)), (nw, .inr (3, [.int nvi, .int nro, .int nwa, .int nlz, .int nds, .int ndy, .int nga, .int npa, .ref nw0, .ref nw1, .ref nw2, .ref nw3, .ref nw4, .ref nw5, .ref nw6, .ref nw7])), (nw0, .inl (cI, 8, .inl nfw)), (nw1, .inl (cI, 8, .inl nfo)), (nw2, .inl (cI, 8, .inl nfr)), (nw3, .inl (cI, 8, .inl nfn)), (nw4, .inl (cI, 8, .inl nft)), (nw5, .inl (cI, 3, .inl nfk)), (nw6, .inl (cI, 3, .inl nfa)), (nw7, .inl (cI, 3, .inl nfb))]) (WR := []) (va_runV (As := [.int 20, .int w, .int 5]) (rest := []) ⟨hx, hb, hml, hown, hts⟩ k_14 (cwV 3 hts gX1_gives_X1_gives rfl rfl rfl (by decide +kernel) ⟨Nat.le_of_ble_eq_true rfl, Nat.le_of_ble_eq_true rfl⟩) (wpz_V hZ hS hAb hP hK hD hN [9, 10, 0, 1, 2, 3, 4, 5, 6, 7, 8] (by decide) rfl (ci := 1) rfl rfl) rfl rfl hl.1 rfl (lv_room (Nat.le_of_ble_eq_true rfl)) dX1_gives_165 ⟨Nat.le_of_ble_eq_true rfl, Nat.le_of_ble_eq_true rfl⟩) hP hD hS hA [9, 10, 0, 1, 2, 3, 4, 5, 6, 7, 8] [] rfl rfl (by decide) (by decide) (fun r_14 u_14 H locs hw_14 hP hD hS => ?_)
      clear k_14
      obtain ⟨v14_0, v14_1⟩ := u_14
      have hP : va_P D kl [(h, .inr (1, [.ref nw, .ref bo, .int v14_0])), (bo, .inl (cI, 16, .inl v14_1)), (nw, .inr (3, [.int nvi, .int nro, .int nwa, .int nlz, .int nds, .int ndy, .int nga, .int npa, .ref nw0, .ref nw1, .ref nw2, .ref nw3, .ref nw4, .ref nw5, .ref nw6, .ref nw7])), (nw0, .inl (cI, 8, .inl nfw)), (nw1, .inl (cI, 8, .inl nfo)), (nw2, .inl (cI, 8, .inl nfr)), (nw3, .inl (cI, 8, .inl nfn)), (nw4, .inl (cI, 8, .inl nft)), (nw5, .inl (cI, 3, .inl nfk)), (nw6, .inl (cI, 3, .inl nfa)), (nw7, .inl (cI, 3, .inl nfb))] H := hP
      have hD : va_D A [(h, .inr (1, [.ref nw, .ref bo, .int v14_0])), (bo, .inl (cI, 16, .inl v14_1)), (nw, .inr (3, [.int nvi, .int nro, .int nwa, .int nlz, .int nds, .int ndy, .int nga, .int npa, .ref nw0, .ref nw1, .ref nw2, .ref nw3, .ref nw4, .ref nw5, .ref nw6, .ref nw7])), (nw0, .inl (cI, 8, .inl nfw)), (nw1, .inl (cI, 8, .inl nfo)), (nw2, .inl (cI, 8, .inl nfr)), (nw3, .inl (cI, 8, .inl nfn)), (nw4, .inl (cI, 8, .inl nft)), (nw5, .inl (cI, 3, .inl nfk)), (nw6, .inl (cI, 3, .inl nfa)), (nw7, .inl (cI, 3, .inl nfb))] := hD
      have c14_0 := hw_14
      have c14_0 : 0 ≤ v14_0.toInt ∧ v14_0.toInt ≤ 16 := c14_0
      refine lv_aload_n hx hb dX1_gives_168 rfl (lv_at hl 1 rfl) ?_
      refine va_get (D := D) (ci := 1) (v := .ref nw) (C := RX1) (T := TX1) (N := 3) hx hb hts (fun _ h => List.mem_cons_of_mem _ (List.mem_append_left _ (List.mem_append_right _ h))) hown hK hP 0 rfl rfl 0 (by decide) (hts (.fieldLink RX1 19 "WinterWalk$Asks" "land" "LWinterWalk$Land;") (List.mem_of_getElem? (i := 1) rfl)) (fun _ h9 => h9) rfl dX1_gives_169 ?_
      refine va_get (D := D) (ci := 3) (v := .ref nw1) (C := RX4) (T := TX4) (N := 16) hx hb hts (fun _ h => List.mem_cons_of_mem _ (List.mem_append_right _ h)) hown hK hP 2 rfl rfl 9 (by decide) (hts (.fieldLink RX1 62 "WinterWalk$Land" "offers" "[I") (List.mem_of_getElem? (i := 3) rfl)) (fun _ h9 => h9) rfl dX1_gives_172 ?_
      refine lv_aload_n hx hb dX1_gives_175 rfl (lv_at hl 1 rfl) ?_
      refine va_get (D := D) (ci := 1) (v := .ref nw) (C := RX1) (T := TX1) (N := 3) hx hb hts (fun _ h => List.mem_cons_of_mem _ (List.mem_append_left _ (List.mem_append_right _ h))) hown hK hP 0 rfl rfl 0 (by decide) (hts (.fieldLink RX1 19 "WinterWalk$Asks" "land" "LWinterWalk$Land;") (List.mem_of_getElem? (i := 1) rfl)) (fun _ h9 => h9) rfl dX1_gives_176 ?_
      refine va_get (D := D) (ci := 3) (v := .ref nw6) (C := RX4) (T := TX4) (N := 16) hx hb hts (fun _ h => List.mem_cons_of_mem _ (List.mem_append_right _ h)) hown hK hP 2 rfl rfl 14 (by decide) (hts (.fieldLink RX1 59 "WinterWalk$Land" "at" "[I") (List.mem_of_getElem? (i := 2) rfl)) (fun _ h9 => h9) rfl dX1_gives_179 ?_
      refine lv_iload_n hx hb dX1_gives_182 rfl (lv_at hl 3 rfl) ?_
      refine va_iald hx hb hK hP 9 0 rfl rfl (zi_in (by omega) (by omega)) dX1_gives_183 ?_
      refine lv_topi (fun x_15 ex_15 => ?_)
      have f_15 : 0 ≤ x_15.toInt ∧ x_15.toInt ≤ 7 := by rw [ex_15]; exact nha _ (zi_cl (by omega) (by omega))
      clear ex_15
      refine va_iald hx hb hK hP 4 0 rfl rfl (zi_in (by omega) (by omega)) dX1_gives_184 ?_
      refine lv_topi (fun x_16 ex_16 => ?_)
      clear ex_16
      refine lv_iadd hx hb dX1_gives_185 ?_
      refine lv_topi (fun x_17 ex_17 => ?_)
      clear ex_17
      exact wr_i (v := x_17) hx hb hr hlocks hS (v14_0, v14_1) (by exact show 0 ≤ (v14_0 : Int32).toInt ∧ (v14_0 : Int32).toInt ≤ 16 from by omega) (hP.sub [0, 1, 2, 3, 4, 5, 6, 7, 8, 9, 10] rfl) (hD.sub [0, 1, 2, 3, 4, 5, 6, 7, 8, 9, 10] (by decide) rfl) dX1_gives_186
    · refine lv_tableIn (off := 168) (tgt := 187) hx hb dX1_gives_19 (by omega) (by omega) (by rw [g_3]; rfl) (by decide) ?_
      refine lv_aload_n hx hb dX1_gives_187 rfl (lv_at hl 1 rfl) ?_
      refine lv_bipush (v := 21) hx hb dX1_gives_188 (by decide) ?_
      refine lv_iload_n hx hb dX1_gives_190 rfl (lv_at hl 3 rfl) ?_
      refine lv_iload hx hb dX1_gives_191 (lv_at hl 0 rfl) ?_
      have k_18 := (g_X1_gives_5 l D cI cB cQ z H.size h nw bo nw0 nw1 nw2 nw3 nw4 nw5 nw6 nw7 v1_0 nvi nro nwa nlz nds ndy nga npa 21 w v1_1 nfw nfo nfr nfn nft nfk nfa nfb nha (by omega) (by omega) (by omega) (by omega))
      refine wc_i (WC := [(h, .inr (1, [.ref nw, .ref bo, .int v1_0])), (bo, .inl (cI, 16, .inl v1_1)), (nw, .inr (3, [.int nvi, .int nro, .int nwa, .int nlz, .int nds, .int ndy, .int nga, .int npa, .ref nw0, .ref nw1, .ref nw2, .ref nw3, .ref nw4, .ref nw5, .ref nw6, .ref nw7])), (nw0, .inl (cI, 8, .inl nfw)), (nw1, .inl (cI, 8, .inl nfo)), (nw2, .inl (cI, 8, .inl nfr)), (nw3, .inl (cI, 8, .inl nfn)), (nw4, .inl (cI, 8, .inl nft)), (nw5, .inl (cI, 3, .inl nfk)), (nw6, .inl (cI, 3, .inl nfa)), (nw7, .inl (cI, 3, .inl nfb))]) (WR := []) (va_runV (As := [.int 21, .int w, .int 5]) (rest := []) ⟨hx, hb, hml, hown, hts⟩ k_18 (cwV 3 hts gX1_gives_X1_gives rfl rfl rfl (by decide +kernel) ⟨Nat.le_of_ble_eq_true rfl, Nat.le_of_ble_eq_true rfl⟩) (wpz_V hZ hS hAb hP hK hD hN [9, 10, 0, 1, 2, 3, 4, 5, 6, 7, 8] (by decide) rfl (ci := 1) rfl rfl) rfl rfl hl.1 rfl (lv_room (Nat.le_of_ble_eq_true rfl)) dX1_gives_193 ⟨Nat.le_of_ble_eq_true rfl, Nat.le_of_ble_eq_true rfl⟩) hP hD hS hA [9, 10, 0, 1, 2, 3, 4, 5, 6, 7, 8] [] rfl rfl (by decide) (by decide) (fun r_18 u_18 H locs hw_18 hP hD hS => ?_)
      clear k_18
      obtain ⟨v18_0, v18_1⟩ := u_18
      have hP : va_P D kl [(h, .inr (1, [.ref nw, .ref bo, .int v18_0])), (bo, .inl (cI, 16, .inl v18_1)), (nw, .inr (3, [.int nvi, .int nro, .int nwa, .int nlz, .int nds, .int ndy, .int nga, .int npa, .ref nw0, .ref nw1, .ref nw2, .ref nw3, .ref nw4, .ref nw5, .ref nw6, .ref nw7])), (nw0, .inl (cI, 8, .inl nfw)), (nw1, .inl (cI, 8, .inl nfo)), (nw2, .inl (cI, 8, .inl nfr)), (nw3, .inl (cI, 8, .inl nfn)), (nw4, .inl (cI, 8, .inl nft)), (nw5, .inl (cI, 3, .inl nfk)), (nw6, .inl (cI, 3, .inl nfa)), (nw7, .inl (cI, 3, .inl nfb))] H := hP
      have hD : va_D A [(h, .inr (1, [.ref nw, .ref bo, .int v18_0])), (bo, .inl (cI, 16, .inl v18_1)), (nw, .inr (3, [.int nvi, .int nro, .int nwa, .int nlz, .int nds, .int ndy, .int nga, .int npa, .ref nw0, .ref nw1, .ref nw2, .ref nw3, .ref nw4, .ref nw5, .ref nw6, .ref nw7])), (nw0, .inl (cI, 8, .inl nfw)), (nw1, .inl (cI, 8, .inl nfo)), (nw2, .inl (cI, 8, .inl nfr)), (nw3, .inl (cI, 8, .inl nfn)), (nw4, .inl (cI, 8, .inl nft)), (nw5, .inl (cI, 3, .inl nfk)), (nw6, .inl (cI, 3, .inl nfa)), (nw7, .inl (cI, 3, .inl nfb))] := hD
      have c18_0 := hw_18
      have c18_0 : 0 ≤ v18_0.toInt ∧ v18_0.toInt ≤ 16 := c18_0
      refine lv_sipush (v := 1000) hx hb dX1_gives_196 (by decide) ?_
      refine lv_isub hx hb dX1_gives_199 ?_
      refine lv_topi (fun x_19 ex_19 => ?_)
      clear ex_19
      exact wr_i (v := x_19) hx hb hr hlocks hS (v18_0, v18_1) (by exact show 0 ≤ (v18_0 : Int32).toInt ∧ (v18_0 : Int32).toInt ≤ 16 from by omega) (hP.sub [0, 1, 2, 3, 4, 5, 6, 7, 8, 9, 10] rfl) (hD.sub [0, 1, 2, 3, 4, 5, 6, 7, 8, 9, 10] (by decide) rfl) dX1_gives_200
    · refine lv_tableIn (off := 182) (tgt := 201) hx hb dX1_gives_19 (by omega) (by omega) (by rw [g_3]; rfl) (by decide) ?_
      refine lv_aload_n hx hb dX1_gives_201 rfl (lv_at hl 1 rfl) ?_
      refine lv_bipush (v := 20) hx hb dX1_gives_202 (by decide) ?_
      refine lv_iload_n hx hb dX1_gives_204 rfl (lv_at hl 3 rfl) ?_
      refine lv_iload hx hb dX1_gives_205 (lv_at hl 0 rfl) ?_
      have k_20 := (g_X1_gives_5 l D cI cB cQ z H.size h nw bo nw0 nw1 nw2 nw3 nw4 nw5 nw6 nw7 v1_0 nvi nro nwa nlz nds ndy nga npa 20 w v1_1 nfw nfo nfr nfn nft nfk nfa nfb nha (by omega) (by omega) (by omega) (by omega))
      refine wc_i (WC := [(h, .inr (1, [.ref nw, .ref bo, .int v1_0])), (bo, .inl (cI, 16, .inl v1_1)), (nw, .inr (3, [.int nvi, .int nro, .int nwa, .int nlz, .int nds, .int ndy, .int nga, .int npa, .ref nw0, .ref nw1, .ref nw2, .ref nw3, .ref nw4, .ref nw5, .ref nw6, .ref nw7])), (nw0, .inl (cI, 8, .inl nfw)), (nw1, .inl (cI, 8, .inl nfo)), (nw2, .inl (cI, 8, .inl nfr)), (nw3, .inl (cI, 8, .inl nfn)), (nw4, .inl (cI, 8, .inl nft)), (nw5, .inl (cI, 3, .inl nfk)), (nw6, .inl (cI, 3, .inl nfa)), (nw7, .inl (cI, 3, .inl nfb))]) (WR := []) (va_runV (As := [.int 20, .int w, .int 5]) (rest := []) ⟨hx, hb, hml, hown, hts⟩ k_20 (cwV 3 hts gX1_gives_X1_gives rfl rfl rfl (by decide +kernel) ⟨Nat.le_of_ble_eq_true rfl, Nat.le_of_ble_eq_true rfl⟩) (wpz_V hZ hS hAb hP hK hD hN [9, 10, 0, 1, 2, 3, 4, 5, 6, 7, 8] (by decide) rfl (ci := 1) rfl rfl) rfl rfl hl.1 rfl (lv_room (Nat.le_of_ble_eq_true rfl)) dX1_gives_207 ⟨Nat.le_of_ble_eq_true rfl, Nat.le_of_ble_eq_true rfl⟩) hP hD hS hA [9, 10, 0, 1, 2, 3, 4, 5, 6, 7, 8] [] rfl rfl (by decide) (by decide) (fun r_20 u_20 H locs hw_20 hP hD hS => ?_)
      clear k_20
      obtain ⟨v20_0, v20_1⟩ := u_20
      have hP : va_P D kl [(h, .inr (1, [.ref nw, .ref bo, .int v20_0])), (bo, .inl (cI, 16, .inl v20_1)), (nw, .inr (3, [.int nvi, .int nro, .int nwa, .int nlz, .int nds, .int ndy, .int nga, .int npa, .ref nw0, .ref nw1, .ref nw2, .ref nw3, .ref nw4, .ref nw5, .ref nw6, .ref nw7])), (nw0, .inl (cI, 8, .inl nfw)), (nw1, .inl (cI, 8, .inl nfo)), (nw2, .inl (cI, 8, .inl nfr)), (nw3, .inl (cI, 8, .inl nfn)), (nw4, .inl (cI, 8, .inl nft)), (nw5, .inl (cI, 3, .inl nfk)), (nw6, .inl (cI, 3, .inl nfa)), (nw7, .inl (cI, 3, .inl nfb))] H := hP
      have hD : va_D A [(h, .inr (1, [.ref nw, .ref bo, .int v20_0])), (bo, .inl (cI, 16, .inl v20_1)), (nw, .inr (3, [.int nvi, .int nro, .int nwa, .int nlz, .int nds, .int ndy, .int nga, .int npa, .ref nw0, .ref nw1, .ref nw2, .ref nw3, .ref nw4, .ref nw5, .ref nw6, .ref nw7])), (nw0, .inl (cI, 8, .inl nfw)), (nw1, .inl (cI, 8, .inl nfo)), (nw2, .inl (cI, 8, .inl nfr)), (nw3, .inl (cI, 8, .inl nfn)), (nw4, .inl (cI, 8, .inl nft)), (nw5, .inl (cI, 3, .inl nfk)), (nw6, .inl (cI, 3, .inl nfa)), (nw7, .inl (cI, 3, .inl nfb))] := hD
      have c20_0 := hw_20
      have c20_0 : 0 ≤ v20_0.toInt ∧ v20_0.toInt ≤ 16 := c20_0
      refine lv_aload_n hx hb dX1_gives_210 rfl (lv_at hl 1 rfl) ?_
      refine lv_iload_n hx hb dX1_gives_211 rfl (lv_at hl 3 rfl) ?_
      refine lv_iconst (v := 0) hx hb dX1_gives_212 (by decide) ?_
      refine lv_iload hx hb dX1_gives_213 (lv_at hl 0 rfl) ?_
      have k_21 := (g_X1_asked_5 l D cI cB cQ z H.size h nw bo nw0 nw1 nw2 nw3 nw4 nw5 nw6 nw7 v20_0 nvi nro nwa nlz nds ndy nga npa w 0 v20_1 nfw nfo nfr nfn nft nfk nfa nfb nha (by omega) (by omega) (by omega) (by omega))
      refine wc_i (WC := [(h, .inr (1, [.ref nw, .ref bo, .int v20_0])), (bo, .inl (cI, 16, .inl v20_1)), (nw, .inr (3, [.int nvi, .int nro, .int nwa, .int nlz, .int nds, .int ndy, .int nga, .int npa, .ref nw0, .ref nw1, .ref nw2, .ref nw3, .ref nw4, .ref nw5, .ref nw6, .ref nw7])), (nw0, .inl (cI, 8, .inl nfw)), (nw1, .inl (cI, 8, .inl nfo)), (nw2, .inl (cI, 8, .inl nfr)), (nw3, .inl (cI, 8, .inl nfn)), (nw4, .inl (cI, 8, .inl nft)), (nw5, .inl (cI, 3, .inl nfk)), (nw6, .inl (cI, 3, .inl nfa)), (nw7, .inl (cI, 3, .inl nfb))]) (WR := []) (va_runV (As := [.int w, .int 0, .int 5]) (rest := [.int r_20]) ⟨hx, hb, hml, hown, hts⟩ k_21 (cwV 3 hts gX1_gives_X1_asked rfl rfl rfl (by decide +kernel) ⟨Nat.le_of_ble_eq_true rfl, Nat.le_of_ble_eq_true rfl⟩) (wpz_V hZ hS hAb hP hK hD hN [0, 1, 2, 3, 4, 5, 6, 7, 8, 9, 10] (by decide) rfl (ci := 1) rfl rfl) rfl rfl hl.1 rfl (lv_room (Nat.le_of_ble_eq_true rfl)) dX1_gives_215 ⟨Nat.le_of_ble_eq_true rfl, Nat.le_of_ble_eq_true rfl⟩) hP hD hS hA [0, 1, 2, 3, 4, 5, 6, 7, 8, 9, 10] [] rfl rfl (by decide) (by decide) (fun r_21 u_21 H locs hw_21 hP hD hS => ?_)
      clear k_21
      obtain ⟨v21_0, v21_1⟩ := u_21
      have hP : va_P D kl [(h, .inr (1, [.ref nw, .ref bo, .int v21_0])), (bo, .inl (cI, 16, .inl v21_1)), (nw, .inr (3, [.int nvi, .int nro, .int nwa, .int nlz, .int nds, .int ndy, .int nga, .int npa, .ref nw0, .ref nw1, .ref nw2, .ref nw3, .ref nw4, .ref nw5, .ref nw6, .ref nw7])), (nw0, .inl (cI, 8, .inl nfw)), (nw1, .inl (cI, 8, .inl nfo)), (nw2, .inl (cI, 8, .inl nfr)), (nw3, .inl (cI, 8, .inl nfn)), (nw4, .inl (cI, 8, .inl nft)), (nw5, .inl (cI, 3, .inl nfk)), (nw6, .inl (cI, 3, .inl nfa)), (nw7, .inl (cI, 3, .inl nfb))] H := hP
      have hD : va_D A [(h, .inr (1, [.ref nw, .ref bo, .int v21_0])), (bo, .inl (cI, 16, .inl v21_1)), (nw, .inr (3, [.int nvi, .int nro, .int nwa, .int nlz, .int nds, .int ndy, .int nga, .int npa, .ref nw0, .ref nw1, .ref nw2, .ref nw3, .ref nw4, .ref nw5, .ref nw6, .ref nw7])), (nw0, .inl (cI, 8, .inl nfw)), (nw1, .inl (cI, 8, .inl nfo)), (nw2, .inl (cI, 8, .inl nfr)), (nw3, .inl (cI, 8, .inl nfn)), (nw4, .inl (cI, 8, .inl nft)), (nw5, .inl (cI, 3, .inl nfk)), (nw6, .inl (cI, 3, .inl nfa)), (nw7, .inl (cI, 3, .inl nfb))] := hD
      have c21_0 := hw_21
      have c21_0 : 0 ≤ v21_0.toInt ∧ v21_0.toInt ≤ 16 := c21_0
      refine lv_isub hx hb dX1_gives_218 ?_
      refine lv_topi (fun x_22 ex_22 => ?_)
      clear ex_22
      exact wr_i (v := x_22) hx hb hr hlocks hS (v21_0, v21_1) (by exact show 0 ≤ (v21_0 : Int32).toInt ∧ (v21_0 : Int32).toInt ≤ 16 from by omega) (hP.sub [0, 1, 2, 3, 4, 5, 6, 7, 8, 9, 10] rfl) (hD.sub [0, 1, 2, 3, 4, 5, 6, 7, 8, 9, 10] (by decide) rfl) dX1_gives_219
    · refine lv_tableIn (off := 201) (tgt := 220) hx hb dX1_gives_19 (by omega) (by omega) (by rw [g_3]; rfl) (by decide) ?_
      refine lv_iconst (v := 2) hx hb dX1_gives_220 (by decide) ?_
      refine lv_aload_n hx hb dX1_gives_221 rfl (lv_at hl 1 rfl) ?_
      refine lv_bipush (v := 21) hx hb dX1_gives_222 (by decide) ?_
      refine lv_iload_n hx hb dX1_gives_224 rfl (lv_at hl 3 rfl) ?_
      refine lv_iload hx hb dX1_gives_225 (lv_at hl 0 rfl) ?_
      have k_23 := (g_X1_gives_5 l D cI cB cQ z H.size h nw bo nw0 nw1 nw2 nw3 nw4 nw5 nw6 nw7 v1_0 nvi nro nwa nlz nds ndy nga npa 21 w v1_1 nfw nfo nfr nfn nft nfk nfa nfb nha (by omega) (by omega) (by omega) (by omega))
      refine wc_i (WC := [(h, .inr (1, [.ref nw, .ref bo, .int v1_0])), (bo, .inl (cI, 16, .inl v1_1)), (nw, .inr (3, [.int nvi, .int nro, .int nwa, .int nlz, .int nds, .int ndy, .int nga, .int npa, .ref nw0, .ref nw1, .ref nw2, .ref nw3, .ref nw4, .ref nw5, .ref nw6, .ref nw7])), (nw0, .inl (cI, 8, .inl nfw)), (nw1, .inl (cI, 8, .inl nfo)), (nw2, .inl (cI, 8, .inl nfr)), (nw3, .inl (cI, 8, .inl nfn)), (nw4, .inl (cI, 8, .inl nft)), (nw5, .inl (cI, 3, .inl nfk)), (nw6, .inl (cI, 3, .inl nfa)), (nw7, .inl (cI, 3, .inl nfb))]) (WR := []) (va_runV (As := [.int 21, .int w, .int 5]) (rest := [.int 2]) ⟨hx, hb, hml, hown, hts⟩ k_23 (cwV 3 hts gX1_gives_X1_gives rfl rfl rfl (by decide +kernel) ⟨Nat.le_of_ble_eq_true rfl, Nat.le_of_ble_eq_true rfl⟩) (wpz_V hZ hS hAb hP hK hD hN [9, 10, 0, 1, 2, 3, 4, 5, 6, 7, 8] (by decide) rfl (ci := 1) rfl rfl) rfl rfl hl.1 rfl (lv_room (Nat.le_of_ble_eq_true rfl)) dX1_gives_227 ⟨Nat.le_of_ble_eq_true rfl, Nat.le_of_ble_eq_true rfl⟩) hP hD hS hA [9, 10, 0, 1, 2, 3, 4, 5, 6, 7, 8] [] rfl rfl (by decide) (by decide) (fun r_23 u_23 H locs hw_23 hP hD hS => ?_)
      clear k_23
      obtain ⟨v23_0, v23_1⟩ := u_23
      have hP : va_P D kl [(h, .inr (1, [.ref nw, .ref bo, .int v23_0])), (bo, .inl (cI, 16, .inl v23_1)), (nw, .inr (3, [.int nvi, .int nro, .int nwa, .int nlz, .int nds, .int ndy, .int nga, .int npa, .ref nw0, .ref nw1, .ref nw2, .ref nw3, .ref nw4, .ref nw5, .ref nw6, .ref nw7])), (nw0, .inl (cI, 8, .inl nfw)), (nw1, .inl (cI, 8, .inl nfo)), (nw2, .inl (cI, 8, .inl nfr)), (nw3, .inl (cI, 8, .inl nfn)), (nw4, .inl (cI, 8, .inl nft)), (nw5, .inl (cI, 3, .inl nfk)), (nw6, .inl (cI, 3, .inl nfa)), (nw7, .inl (cI, 3, .inl nfb))] H := hP
      have hD : va_D A [(h, .inr (1, [.ref nw, .ref bo, .int v23_0])), (bo, .inl (cI, 16, .inl v23_1)), (nw, .inr (3, [.int nvi, .int nro, .int nwa, .int nlz, .int nds, .int ndy, .int nga, .int npa, .ref nw0, .ref nw1, .ref nw2, .ref nw3, .ref nw4, .ref nw5, .ref nw6, .ref nw7])), (nw0, .inl (cI, 8, .inl nfw)), (nw1, .inl (cI, 8, .inl nfo)), (nw2, .inl (cI, 8, .inl nfr)), (nw3, .inl (cI, 8, .inl nfn)), (nw4, .inl (cI, 8, .inl nft)), (nw5, .inl (cI, 3, .inl nfk)), (nw6, .inl (cI, 3, .inl nfa)), (nw7, .inl (cI, 3, .inl nfb))] := hD
      have c23_0 := hw_23
      have c23_0 : 0 ≤ v23_0.toInt ∧ v23_0.toInt ≤ 16 := c23_0
      refine lv_imul hx hb dX1_gives_230 ?_
      refine lv_topi (fun x_24 ex_24 => ?_)
      clear ex_24
      exact wr_i (v := x_24) hx hb hr hlocks hS (v23_0, v23_1) (by exact show 0 ≤ (v23_0 : Int32).toInt ∧ (v23_0 : Int32).toInt ≤ 16 from by omega) (hP.sub [0, 1, 2, 3, 4, 5, 6, 7, 8, 9, 10] rfl) (hD.sub [0, 1, 2, 3, 4, 5, 6, 7, 8, 9, 10] (by decide) rfl) dX1_gives_231
set_option maxHeartbeats 4000000 in
set_option maxRecDepth 100000 in
theorem g_X1_asked_4 (l : Launch) (D : va_G) (cI cB cQ : ClassId) (z : ZT) (sz : Nat) (h : Nat) (nw : Nat) (bo : Nat) (nw0 : Nat) (nw1 : Nat) (nw2 : Nat) (nw3 : Nat) (nw4 : Nat) (nw5 : Nat) (nw6 : Nat) (nw7 : Nat) (tc : Int32) (nvi : Int32) (nro : Int32) (nwa : Int32) (nlz : Int32) (nds : Int32) (ndy : Int32) (nga : Int32) (npa : Int32) (w : Int32) (k : Int32) (bf : Nat → Int32) (nfw : Nat → Int32) (nfo : Nat → Int32) (nfr : Nat → Int32) (nfn : Nat → Int32) (nft : Nat → Int32) (nfk : Nat → Int32) (nfa : Nat → Int32) (nfb : Nat → Int32) (nha : ∀ j, j < 3 → 0 ≤ (nfa j).toInt ∧ (nfa j).toInt ≤ 7) (h_tc : 0 ≤ tc.toInt ∧ tc.toInt ≤ 16) (h_nvi : 0 ≤ nvi.toInt ∧ nvi.toInt ≤ 8) (h_nwa : 0 ≤ nwa.toInt ∧ nwa.toInt ≤ 3) (h_w : 0 ≤ w.toInt ∧ w.toInt ≤ 2) : miz l yX1_asked wsX1_asked ({ frames := 13, cells := 0, slots := 0, locals := 301 }) z D cI cB cQ [.ref h, .int w, .int k, .int 4] sz [(h, .inr (1, [.ref nw, .ref bo, .int tc])), (bo, .inl (cI, 16, .inl bf)), (nw, .inr (3, [.int nvi, .int nro, .int nwa, .int nlz, .int nds, .int ndy, .int nga, .int npa, .ref nw0, .ref nw1, .ref nw2, .ref nw3, .ref nw4, .ref nw5, .ref nw6, .ref nw7])), (nw0, .inl (cI, 8, .inl nfw)), (nw1, .inl (cI, 8, .inl nfo)), (nw2, .inl (cI, 8, .inl nfr)), (nw3, .inl (cI, 8, .inl nfn)), (nw4, .inl (cI, 8, .inl nft)), (nw5, .inl (cI, 3, .inl nfk)), (nw6, .inl (cI, 3, .inl nfa)), (nw7, .inl (cI, 3, .inl nfb))] (fun (r : Int32) (u : Int32 × (Nat → Int32)) => (0 ≤ u.1.toInt ∧ u.1.toInt ≤ 16)) (fun u => [(h, .inr (1, [.ref nw, .ref bo, .int u.1])), (bo, .inl (cI, 16, .inl u.2)), (nw, .inr (3, [.int nvi, .int nro, .int nwa, .int nlz, .int nds, .int ndy, .int nga, .int npa, .ref nw0, .ref nw1, .ref nw2, .ref nw3, .ref nw4, .ref nw5, .ref nw6, .ref nw7])), (nw0, .inl (cI, 8, .inl nfw)), (nw1, .inl (cI, 8, .inl nfo)), (nw2, .inl (cI, 8, .inl nfr)), (nw3, .inl (cI, 8, .inl nfn)), (nw4, .inl (cI, 8, .inl nft)), (nw5, .inl (cI, 3, .inl nfk)), (nw6, .inl (cI, 3, .inl nfa)), (nw7, .inl (cI, 3, .inl nfb))]) 0 0 := by
  refine wm_z (cc := cX1_asked) (maxL := 4) (ret := (some .int)) (by decide) rfl (Nat.le_of_ble_eq_true rfl) ?_
  intro p e s m below meth c A ls hZ hAb hx hb hr hml hown hts hlocks hin hP hK hD hN hA hl hS
  have hown : s.vm.findClass RX1 = some m.cls := hown
  have hl : lv_has ls 4 [(0, .ref h), (1, .int w), (2, .int k), (3, .int 4)] := hl
  change W p l e ({ frames := 13, cells := 0, slots := 0, locals := 301 }) s m ([.ref h, .int w, .int k, .int 4] : List Value).toArray below meth c s.heap [] 0 0 (MQ below (va_Qi (fun (r : Int32) (u : Int32 × (Nat → Int32)) => (0 ≤ u.1.toInt ∧ u.1.toInt ≤ 16)) (fun u t => wb D A ((fun u => [(h, .inr (1, [.ref nw, .ref bo, .int u.1])), (bo, .inl (cI, 16, .inl u.2)), (nw, .inr (3, [.int nvi, .int nro, .int nwa, .int nlz, .int nds, .int ndy, .int nga, .int npa, .ref nw0, .ref nw1, .ref nw2, .ref nw3, .ref nw4, .ref nw5, .ref nw6, .ref nw7])), (nw0, .inl (cI, 8, .inl nfw)), (nw1, .inl (cI, 8, .inl nfo)), (nw2, .inl (cI, 8, .inl nfr)), (nw3, .inl (cI, 8, .inl nfn)), (nw4, .inl (cI, 8, .inl nft)), (nw5, .inl (cI, 3, .inl nfk)), (nw6, .inl (cI, 3, .inl nfa)), (nw7, .inl (cI, 3, .inl nfb))]) u) t) A) ([.ref h, .int w, .int k, .int 4] : List Value).toArray s 0 0 A) (F0 m 0 ls [])
  refine lv_aload_n hx hb dX1_asked_0 rfl (lv_at hl 0 rfl) ?_
  refine lv_aload_n hx hb dX1_asked_1 rfl (lv_at hl 0 rfl) ?_
  refine va_get (D := D) (ci := 1) (v := .ref nw) (C := RX1) (T := TX1) (N := 3) hx hb hts (fun _ h => List.mem_cons_of_mem _ (List.mem_append_left _ (List.mem_append_right _ h))) hown hK hP 0 rfl rfl 0 (by decide) (hts (.fieldLink RX1 19 "WinterWalk$Asks" "land" "LWinterWalk$Land;") (List.mem_of_getElem? (i := 1) rfl)) (fun _ h9 => h9) rfl dX1_asked_2 ?_
  refine va_get (D := D) (ci := 3) (v := .ref nw5) (C := RX4) (T := TX4) (N := 16) hx hb hts (fun _ h => List.mem_cons_of_mem _ (List.mem_append_right _ h)) hown hK hP 2 rfl rfl 13 (by decide) (hts (.fieldLink RX1 27 "WinterWalk$Land" "kinds" "[I") (List.mem_of_getElem? (i := 2) rfl)) (fun _ h9 => h9) rfl dX1_asked_5 ?_
  refine lv_iload_n hx hb dX1_asked_8 rfl (lv_at hl 1 rfl) ?_
  refine va_iald hx hb hK hP 8 0 rfl rfl (zi_in (by omega) (by omega)) dX1_asked_9 ?_
  refine lv_topi (fun x_1 ex_1 => ?_)
  clear ex_1
  refine lv_iload_n hx hb dX1_asked_10 rfl (lv_at hl 2 rfl) ?_
  have k_2 := (g_X1_bodyFor l D cI cB cQ z s.heap.size x_1 k)
  refine wc_i (WC := []) (WR := [(h, .inr (1, [.ref nw, .ref bo, .int tc])), (bo, .inl (cI, 16, .inl bf)), (nw, .inr (3, [.int nvi, .int nro, .int nwa, .int nlz, .int nds, .int ndy, .int nga, .int npa, .ref nw0, .ref nw1, .ref nw2, .ref nw3, .ref nw4, .ref nw5, .ref nw6, .ref nw7])), (nw0, .inl (cI, 8, .inl nfw)), (nw1, .inl (cI, 8, .inl nfo)), (nw2, .inl (cI, 8, .inl nfr)), (nw3, .inl (cI, 8, .inl nfn)), (nw4, .inl (cI, 8, .inl nft)), (nw5, .inl (cI, 3, .inl nfk)), (nw6, .inl (cI, 3, .inl nfa)), (nw7, .inl (cI, 3, .inl nfb))]) (va_runS (As := [.int x_1, .int k]) (rest := [.ref h]) ⟨hx, hb, hml, hown, hts⟩ k_2 (va_cwS 2 hts gX1_asked_X1_bodyFor rfl rfl rfl (by decide +kernel) ⟨Nat.le_of_ble_eq_true rfl, Nat.le_of_ble_eq_true rfl⟩) (wpz_S hZ hS hAb hP hK hD hN [] (by decide) rfl) rfl rfl hl.1 rfl (lv_room (Nat.le_of_ble_eq_true rfl)) dX1_asked_11 ⟨Nat.le_of_ble_eq_true rfl, Nat.le_of_ble_eq_true rfl⟩) hP hD hS hA [] [0, 1, 2, 3, 4, 5, 6, 7, 8, 9, 10] rfl rfl (by decide) (by decide) (fun r_2 u_2 H locs hw_2 hP hD hS => ?_)
  clear k_2
  have hP : va_P D kl [(h, .inr (1, [.ref nw, .ref bo, .int tc])), (bo, .inl (cI, 16, .inl bf)), (nw, .inr (3, [.int nvi, .int nro, .int nwa, .int nlz, .int nds, .int ndy, .int nga, .int npa, .ref nw0, .ref nw1, .ref nw2, .ref nw3, .ref nw4, .ref nw5, .ref nw6, .ref nw7])), (nw0, .inl (cI, 8, .inl nfw)), (nw1, .inl (cI, 8, .inl nfo)), (nw2, .inl (cI, 8, .inl nfr)), (nw3, .inl (cI, 8, .inl nfn)), (nw4, .inl (cI, 8, .inl nft)), (nw5, .inl (cI, 3, .inl nfk)), (nw6, .inl (cI, 3, .inl nfa)), (nw7, .inl (cI, 3, .inl nfb))] H := hP
  have hD : va_D A [(h, .inr (1, [.ref nw, .ref bo, .int tc])), (bo, .inl (cI, 16, .inl bf)), (nw, .inr (3, [.int nvi, .int nro, .int nwa, .int nlz, .int nds, .int ndy, .int nga, .int npa, .ref nw0, .ref nw1, .ref nw2, .ref nw3, .ref nw4, .ref nw5, .ref nw6, .ref nw7])), (nw0, .inl (cI, 8, .inl nfw)), (nw1, .inl (cI, 8, .inl nfo)), (nw2, .inl (cI, 8, .inl nfr)), (nw3, .inl (cI, 8, .inl nfn)), (nw4, .inl (cI, 8, .inl nft)), (nw5, .inl (cI, 3, .inl nfk)), (nw6, .inl (cI, 3, .inl nfa)), (nw7, .inl (cI, 3, .inl nfb))] := hD
  clear hw_2
  refine lv_iload_n hx hb dX1_asked_14 rfl (lv_at hl 1 rfl) ?_
  refine lv_iload_n hx hb dX1_asked_15 rfl (lv_at hl 3 rfl) ?_
  have k_3 := (g_X1_gives_4 l D cI cB cQ z H.size h nw bo nw0 nw1 nw2 nw3 nw4 nw5 nw6 nw7 tc nvi nro nwa nlz nds ndy nga npa r_2 w bf nfw nfo nfr nfn nft nfk nfa nfb nha (by omega) (by omega) (by omega) (by omega))
  refine wc_i (WC := [(h, .inr (1, [.ref nw, .ref bo, .int tc])), (bo, .inl (cI, 16, .inl bf)), (nw, .inr (3, [.int nvi, .int nro, .int nwa, .int nlz, .int nds, .int ndy, .int nga, .int npa, .ref nw0, .ref nw1, .ref nw2, .ref nw3, .ref nw4, .ref nw5, .ref nw6, .ref nw7])), (nw0, .inl (cI, 8, .inl nfw)), (nw1, .inl (cI, 8, .inl nfo)), (nw2, .inl (cI, 8, .inl nfr)), (nw3, .inl (cI, 8, .inl nfn)), (nw4, .inl (cI, 8, .inl nft)), (nw5, .inl (cI, 3, .inl nfk)), (nw6, .inl (cI, 3, .inl nfa)), (nw7, .inl (cI, 3, .inl nfb))]) (WR := []) (va_runV (As := [.int r_2, .int w, .int 4]) (rest := []) ⟨hx, hb, hml, hown, hts⟩ k_3 (cwV 3 hts gX1_asked_X1_gives rfl rfl rfl (by decide +kernel) ⟨Nat.le_of_ble_eq_true rfl, Nat.le_of_ble_eq_true rfl⟩) (wpz_V hZ hS hAb hP hK hD hN [0, 1, 2, 3, 4, 5, 6, 7, 8, 9, 10] (by decide) rfl (ci := 1) rfl rfl) rfl rfl hl.1 rfl (lv_room (Nat.le_of_ble_eq_true rfl)) dX1_asked_16 ⟨Nat.le_of_ble_eq_true rfl, Nat.le_of_ble_eq_true rfl⟩) hP hD hS hA [0, 1, 2, 3, 4, 5, 6, 7, 8, 9, 10] [] rfl rfl (by decide) (by decide) (fun r_3 u_3 H locs hw_3 hP hD hS => ?_)
  clear k_3
  obtain ⟨v3_0, v3_1⟩ := u_3
  have hP : va_P D kl [(h, .inr (1, [.ref nw, .ref bo, .int v3_0])), (bo, .inl (cI, 16, .inl v3_1)), (nw, .inr (3, [.int nvi, .int nro, .int nwa, .int nlz, .int nds, .int ndy, .int nga, .int npa, .ref nw0, .ref nw1, .ref nw2, .ref nw3, .ref nw4, .ref nw5, .ref nw6, .ref nw7])), (nw0, .inl (cI, 8, .inl nfw)), (nw1, .inl (cI, 8, .inl nfo)), (nw2, .inl (cI, 8, .inl nfr)), (nw3, .inl (cI, 8, .inl nfn)), (nw4, .inl (cI, 8, .inl nft)), (nw5, .inl (cI, 3, .inl nfk)), (nw6, .inl (cI, 3, .inl nfa)), (nw7, .inl (cI, 3, .inl nfb))] H := hP
  have hD : va_D A [(h, .inr (1, [.ref nw, .ref bo, .int v3_0])), (bo, .inl (cI, 16, .inl v3_1)), (nw, .inr (3, [.int nvi, .int nro, .int nwa, .int nlz, .int nds, .int ndy, .int nga, .int npa, .ref nw0, .ref nw1, .ref nw2, .ref nw3, .ref nw4, .ref nw5, .ref nw6, .ref nw7])), (nw0, .inl (cI, 8, .inl nfw)), (nw1, .inl (cI, 8, .inl nfo)), (nw2, .inl (cI, 8, .inl nfr)), (nw3, .inl (cI, 8, .inl nfn)), (nw4, .inl (cI, 8, .inl nft)), (nw5, .inl (cI, 3, .inl nfk)), (nw6, .inl (cI, 3, .inl nfa)), (nw7, .inl (cI, 3, .inl nfb))] := hD
  have c3_0 := hw_3
  have c3_0 : 0 ≤ v3_0.toInt ∧ v3_0.toInt ≤ 16 := c3_0
  exact wr_i (v := r_3) hx hb hr hlocks hS (v3_0, v3_1) (by exact show 0 ≤ (v3_0 : Int32).toInt ∧ (v3_0 : Int32).toInt ≤ 16 from by omega) (hP.sub [0, 1, 2, 3, 4, 5, 6, 7, 8, 9, 10] rfl) (hD.sub [0, 1, 2, 3, 4, 5, 6, 7, 8, 9, 10] (by decide) rfl) dX1_asked_19
set_option maxHeartbeats 4000000 in
set_option maxRecDepth 100000 in
theorem g_X1_gives_3 (l : Launch) (D : va_G) (cI cB cQ : ClassId) (z : ZT) (sz : Nat) (h : Nat) (nw : Nat) (bo : Nat) (nw0 : Nat) (nw1 : Nat) (nw2 : Nat) (nw3 : Nat) (nw4 : Nat) (nw5 : Nat) (nw6 : Nat) (nw7 : Nat) (tc : Int32) (nvi : Int32) (nro : Int32) (nwa : Int32) (nlz : Int32) (nds : Int32) (ndy : Int32) (nga : Int32) (npa : Int32) (k : Int32) (w : Int32) (bf : Nat → Int32) (nfw : Nat → Int32) (nfo : Nat → Int32) (nfr : Nat → Int32) (nfn : Nat → Int32) (nft : Nat → Int32) (nfk : Nat → Int32) (nfa : Nat → Int32) (nfb : Nat → Int32) (nha : ∀ j, j < 3 → 0 ≤ (nfa j).toInt ∧ (nfa j).toInt ≤ 7) (h_tc : 0 ≤ tc.toInt ∧ tc.toInt ≤ 16) (h_nvi : 0 ≤ nvi.toInt ∧ nvi.toInt ≤ 8) (h_nwa : 0 ≤ nwa.toInt ∧ nwa.toInt ≤ 3) (h_w : 0 ≤ w.toInt ∧ w.toInt ≤ 2) : miz l yX1_gives wsX1_gives ({ frames := 14, cells := 0, slots := 0, locals := 324 }) z D cI cB cQ [.ref h, .int k, .int w, .int 3] sz [(h, .inr (1, [.ref nw, .ref bo, .int tc])), (bo, .inl (cI, 16, .inl bf)), (nw, .inr (3, [.int nvi, .int nro, .int nwa, .int nlz, .int nds, .int ndy, .int nga, .int npa, .ref nw0, .ref nw1, .ref nw2, .ref nw3, .ref nw4, .ref nw5, .ref nw6, .ref nw7])), (nw0, .inl (cI, 8, .inl nfw)), (nw1, .inl (cI, 8, .inl nfo)), (nw2, .inl (cI, 8, .inl nfr)), (nw3, .inl (cI, 8, .inl nfn)), (nw4, .inl (cI, 8, .inl nft)), (nw5, .inl (cI, 3, .inl nfk)), (nw6, .inl (cI, 3, .inl nfa)), (nw7, .inl (cI, 3, .inl nfb))] (fun (r : Int32) (u : Int32 × (Nat → Int32)) => (0 ≤ u.1.toInt ∧ u.1.toInt ≤ 16)) (fun u => [(h, .inr (1, [.ref nw, .ref bo, .int u.1])), (bo, .inl (cI, 16, .inl u.2)), (nw, .inr (3, [.int nvi, .int nro, .int nwa, .int nlz, .int nds, .int ndy, .int nga, .int npa, .ref nw0, .ref nw1, .ref nw2, .ref nw3, .ref nw4, .ref nw5, .ref nw6, .ref nw7])), (nw0, .inl (cI, 8, .inl nfw)), (nw1, .inl (cI, 8, .inl nfo)), (nw2, .inl (cI, 8, .inl nfr)), (nw3, .inl (cI, 8, .inl nfn)), (nw4, .inl (cI, 8, .inl nft)), (nw5, .inl (cI, 3, .inl nfk)), (nw6, .inl (cI, 3, .inl nfa)), (nw7, .inl (cI, 3, .inl nfb))]) 0 0 := by
  refine wm_z (cc := cX1_gives) (maxL := 5) (ret := (some .int)) (by decide) rfl (Nat.le_of_ble_eq_true rfl) ?_
  intro p e s m below meth c A ls hZ hAb hx hb hr hml hown hts hlocks hin hP hK hD hN hA hl hS
  have hown : s.vm.findClass RX1 = some m.cls := hown
  have hl : lv_has ls 5 [(0, .ref h), (1, .int k), (2, .int w), (3, .int 3)] := hl
  change W p l e ({ frames := 14, cells := 0, slots := 0, locals := 324 }) s m ([.ref h, .int k, .int w, .int 3] : List Value).toArray below meth c s.heap [] 0 0 (MQ below (va_Qi (fun (r : Int32) (u : Int32 × (Nat → Int32)) => (0 ≤ u.1.toInt ∧ u.1.toInt ≤ 16)) (fun u t => wb D A ((fun u => [(h, .inr (1, [.ref nw, .ref bo, .int u.1])), (bo, .inl (cI, 16, .inl u.2)), (nw, .inr (3, [.int nvi, .int nro, .int nwa, .int nlz, .int nds, .int ndy, .int nga, .int npa, .ref nw0, .ref nw1, .ref nw2, .ref nw3, .ref nw4, .ref nw5, .ref nw6, .ref nw7])), (nw0, .inl (cI, 8, .inl nfw)), (nw1, .inl (cI, 8, .inl nfo)), (nw2, .inl (cI, 8, .inl nfr)), (nw3, .inl (cI, 8, .inl nfn)), (nw4, .inl (cI, 8, .inl nft)), (nw5, .inl (cI, 3, .inl nfk)), (nw6, .inl (cI, 3, .inl nfa)), (nw7, .inl (cI, 3, .inl nfb))]) u) t) A) ([.ref h, .int k, .int w, .int 3] : List Value).toArray s 0 0 A) (F0 m 0 ls [])
  refine lv_iload_n hx hb dX1_gives_0 rfl (lv_at hl 3 rfl) ?_
  refine lv_bipush (v := 8) hx hb dX1_gives_1 (by decide) ?_
  refine lv_icmp_le (tgt := 8) hx hb dX1_gives_3 (by decide) (fun _ => ?_) (fun c9 => absurd (by decide) c9)
  refine lv_aload_n hx hb dX1_gives_8 rfl (lv_at hl 0 rfl) ?_
  refine lv_iload_n hx hb dX1_gives_9 rfl (lv_at hl 1 rfl) ?_
  have k_1 := (g_X1_leaveTrace l D cI cB cQ s.heap.size h nw bo tc k bf (by omega))
  refine wc_v (WC := [(h, .inr (1, [.ref nw, .ref bo, .int tc])), (bo, .inl (cI, 16, .inl bf))]) (WR := [(nw, .inr (3, [.int nvi, .int nro, .int nwa, .int nlz, .int nds, .int ndy, .int nga, .int npa, .ref nw0, .ref nw1, .ref nw2, .ref nw3, .ref nw4, .ref nw5, .ref nw6, .ref nw7])), (nw0, .inl (cI, 8, .inl nfw)), (nw1, .inl (cI, 8, .inl nfo)), (nw2, .inl (cI, 8, .inl nfr)), (nw3, .inl (cI, 8, .inl nfn)), (nw4, .inl (cI, 8, .inl nft)), (nw5, .inl (cI, 3, .inl nfk)), (nw6, .inl (cI, 3, .inl nfa)), (nw7, .inl (cI, 3, .inl nfb))]) (va_runV (As := [.int k]) (rest := []) ⟨hx, hb, hml, hown, hts⟩ k_1 (cwV 1 hts gX1_gives_X1_leaveTrace rfl rfl rfl (by decide +kernel) ⟨Nat.le_of_ble_eq_true rfl, Nat.le_of_ble_eq_true rfl⟩) (wp_V hP hK hD hN [0, 1] (by decide) rfl (ci := 1) rfl rfl) rfl rfl hl.1 rfl (lv_room (Nat.le_of_ble_eq_true rfl)) dX1_gives_10 ⟨Nat.le_of_ble_eq_true rfl, Nat.le_of_ble_eq_true rfl⟩) hP hD hS hA [0, 1] [2, 3, 4, 5, 6, 7, 8, 9, 10] rfl rfl (by decide) (by decide) (fun u_1 H locs hw_1 hP hD hS => ?_)
  clear k_1
  obtain ⟨v1_0, v1_1⟩ := u_1
  have hP : va_P D kl [(nw, .inr (3, [.int nvi, .int nro, .int nwa, .int nlz, .int nds, .int ndy, .int nga, .int npa, .ref nw0, .ref nw1, .ref nw2, .ref nw3, .ref nw4, .ref nw5, .ref nw6, .ref nw7])), (nw0, .inl (cI, 8, .inl nfw)), (nw1, .inl (cI, 8, .inl nfo)), (nw2, .inl (cI, 8, .inl nfr)), (nw3, .inl (cI, 8, .inl nfn)), (nw4, .inl (cI, 8, .inl nft)), (nw5, .inl (cI, 3, .inl nfk)), (nw6, .inl (cI, 3, .inl nfa)), (nw7, .inl (cI, 3, .inl nfb)), (h, .inr (1, [.ref nw, .ref bo, .int v1_0])), (bo, .inl (cI, 16, .inl v1_1))] H := hP
  have hD : va_D A [(nw, .inr (3, [.int nvi, .int nro, .int nwa, .int nlz, .int nds, .int ndy, .int nga, .int npa, .ref nw0, .ref nw1, .ref nw2, .ref nw3, .ref nw4, .ref nw5, .ref nw6, .ref nw7])), (nw0, .inl (cI, 8, .inl nfw)), (nw1, .inl (cI, 8, .inl nfo)), (nw2, .inl (cI, 8, .inl nfr)), (nw3, .inl (cI, 8, .inl nfn)), (nw4, .inl (cI, 8, .inl nft)), (nw5, .inl (cI, 3, .inl nfk)), (nw6, .inl (cI, 3, .inl nfa)), (nw7, .inl (cI, 3, .inl nfb)), (h, .inr (1, [.ref nw, .ref bo, .int v1_0])), (bo, .inl (cI, 16, .inl v1_1))] := hD
  have c1_0 := hw_1
  have c1_0 : 0 ≤ v1_0.toInt ∧ v1_0.toInt ≤ 16 := c1_0
  refine lv_iload_n hx hb dX1_gives_13 rfl (lv_at hl 3 rfl) ?_
  refine lv_iconst (v := 1) hx hb dX1_gives_14 (by decide) ?_
  refine lv_iadd hx hb dX1_gives_15 ?_
  refine lv_topi (fun x_2 ex_2 => ?_)
  obtain rfl : x_2 = 4 := ex_2.trans (by decide)
  refine lv_istore (lv' := [(4, .int 4), (0, .ref h), (1, .int k), (2, .int w), (3, .int 3)]) hx hb dX1_gives_16 hl (by decide) rfl (fun ls hl => ?_)
  refine lv_iload_n hx hb dX1_gives_18 rfl (lv_at hl 2 rfl) ?_
  by_cases f_3 : k.toInt < 10 ∨ 24 < k.toInt
  · refine lv_tableOut (tgt := 232) hx hb dX1_gives_19 f_3 (by decide) ?_
    refine lv_iconst (v := 0) hx hb dX1_gives_232 (by decide) ?_
    exact wr_i (v := 0) hx hb hr hlocks hS (v1_0, v1_1) (by exact show 0 ≤ (v1_0 : Int32).toInt ∧ (v1_0 : Int32).toInt ≤ 16 from by omega) (hP.sub [9, 10, 0, 1, 2, 3, 4, 5, 6, 7, 8] rfl) (hD.sub [9, 10, 0, 1, 2, 3, 4, 5, 6, 7, 8] (by decide) rfl) dX1_gives_233
  · rcases (show k.toInt = 10 ∨ k.toInt = 11 ∨ k.toInt = 12 ∨ k.toInt = 13 ∨ k.toInt = 14 ∨ k.toInt = 15 ∨ k.toInt = 16 ∨ k.toInt = 17 ∨ k.toInt = 18 ∨ k.toInt = 19 ∨ k.toInt = 20 ∨ k.toInt = 21 ∨ k.toInt = 22 ∨ k.toInt = 23 ∨ k.toInt = 24 by omega) with g_3 | g_3 | g_3 | g_3 | g_3 | g_3 | g_3 | g_3 | g_3 | g_3 | g_3 | g_3 | g_3 | g_3 | g_3
    · refine lv_tableIn (off := 73) (tgt := 92) hx hb dX1_gives_19 (by omega) (by omega) (by rw [g_3]; rfl) (by decide) ?_
      refine lv_aload_n hx hb dX1_gives_92 rfl (lv_at hl 1 rfl) ?_
      refine va_get (D := D) (ci := 1) (v := .ref nw) (C := RX1) (T := TX1) (N := 3) hx hb hts (fun _ h => List.mem_cons_of_mem _ (List.mem_append_left _ (List.mem_append_right _ h))) hown hK hP 9 rfl rfl 0 (by decide) (hts (.fieldLink RX1 19 "WinterWalk$Asks" "land" "LWinterWalk$Land;") (List.mem_of_getElem? (i := 1) rfl)) (fun _ h9 => h9) rfl dX1_gives_93 ?_
      refine va_get (D := D) (ci := 3) (v := .ref nw6) (C := RX4) (T := TX4) (N := 16) hx hb hts (fun _ h => List.mem_cons_of_mem _ (List.mem_append_right _ h)) hown hK hP 0 rfl rfl 14 (by decide) (hts (.fieldLink RX1 59 "WinterWalk$Land" "at" "[I") (List.mem_of_getElem? (i := 2) rfl)) (fun _ h9 => h9) rfl dX1_gives_96 ?_
      refine lv_iload_n hx hb dX1_gives_99 rfl (lv_at hl 3 rfl) ?_
      refine va_iald hx hb hK hP 7 0 rfl rfl (zi_in (by omega) (by omega)) dX1_gives_100 ?_
      refine lv_topi (fun x_4 ex_4 => ?_)
      have f_4 : 0 ≤ x_4.toInt ∧ x_4.toInt ≤ 7 := by rw [ex_4]; exact nha _ (zi_cl (by omega) (by omega))
      clear ex_4
      exact wr_i (v := x_4) hx hb hr hlocks hS (v1_0, v1_1) (by exact show 0 ≤ (v1_0 : Int32).toInt ∧ (v1_0 : Int32).toInt ≤ 16 from by omega) (hP.sub [9, 10, 0, 1, 2, 3, 4, 5, 6, 7, 8] rfl) (hD.sub [9, 10, 0, 1, 2, 3, 4, 5, 6, 7, 8] (by decide) rfl) dX1_gives_101
    · refine lv_tableIn (off := 83) (tgt := 102) hx hb dX1_gives_19 (by omega) (by omega) (by rw [g_3]; rfl) (by decide) ?_
      refine lv_aload_n hx hb dX1_gives_102 rfl (lv_at hl 1 rfl) ?_
      refine lv_bipush (v := 10) hx hb dX1_gives_103 (by decide) ?_
      refine lv_iload_n hx hb dX1_gives_105 rfl (lv_at hl 3 rfl) ?_
      refine lv_iload hx hb dX1_gives_106 (lv_at hl 0 rfl) ?_
      have k_5 := (g_X1_gives_4 l D cI cB cQ z H.size h nw bo nw0 nw1 nw2 nw3 nw4 nw5 nw6 nw7 v1_0 nvi nro nwa nlz nds ndy nga npa 10 w v1_1 nfw nfo nfr nfn nft nfk nfa nfb nha (by omega) (by omega) (by omega) (by omega))
      refine wc_i (WC := [(h, .inr (1, [.ref nw, .ref bo, .int v1_0])), (bo, .inl (cI, 16, .inl v1_1)), (nw, .inr (3, [.int nvi, .int nro, .int nwa, .int nlz, .int nds, .int ndy, .int nga, .int npa, .ref nw0, .ref nw1, .ref nw2, .ref nw3, .ref nw4, .ref nw5, .ref nw6, .ref nw7])), (nw0, .inl (cI, 8, .inl nfw)), (nw1, .inl (cI, 8, .inl nfo)), (nw2, .inl (cI, 8, .inl nfr)), (nw3, .inl (cI, 8, .inl nfn)), (nw4, .inl (cI, 8, .inl nft)), (nw5, .inl (cI, 3, .inl nfk)), (nw6, .inl (cI, 3, .inl nfa)), (nw7, .inl (cI, 3, .inl nfb))]) (WR := []) (va_runV (As := [.int 10, .int w, .int 4]) (rest := []) ⟨hx, hb, hml, hown, hts⟩ k_5 (cwV 3 hts gX1_gives_X1_gives rfl rfl rfl (by decide +kernel) ⟨Nat.le_of_ble_eq_true rfl, Nat.le_of_ble_eq_true rfl⟩) (wpz_V hZ hS hAb hP hK hD hN [9, 10, 0, 1, 2, 3, 4, 5, 6, 7, 8] (by decide) rfl (ci := 1) rfl rfl) rfl rfl hl.1 rfl (lv_room (Nat.le_of_ble_eq_true rfl)) dX1_gives_108 ⟨Nat.le_of_ble_eq_true rfl, Nat.le_of_ble_eq_true rfl⟩) hP hD hS hA [9, 10, 0, 1, 2, 3, 4, 5, 6, 7, 8] [] rfl rfl (by decide) (by decide) (fun r_5 u_5 H locs hw_5 hP hD hS => ?_)
      clear k_5
      obtain ⟨v5_0, v5_1⟩ := u_5
      have hP : va_P D kl [(h, .inr (1, [.ref nw, .ref bo, .int v5_0])), (bo, .inl (cI, 16, .inl v5_1)), (nw, .inr (3, [.int nvi, .int nro, .int nwa, .int nlz, .int nds, .int ndy, .int nga, .int npa, .ref nw0, .ref nw1, .ref nw2, .ref nw3, .ref nw4, .ref nw5, .ref nw6, .ref nw7])), (nw0, .inl (cI, 8, .inl nfw)), (nw1, .inl (cI, 8, .inl nfo)), (nw2, .inl (cI, 8, .inl nfr)), (nw3, .inl (cI, 8, .inl nfn)), (nw4, .inl (cI, 8, .inl nft)), (nw5, .inl (cI, 3, .inl nfk)), (nw6, .inl (cI, 3, .inl nfa)), (nw7, .inl (cI, 3, .inl nfb))] H := hP
      have hD : va_D A [(h, .inr (1, [.ref nw, .ref bo, .int v5_0])), (bo, .inl (cI, 16, .inl v5_1)), (nw, .inr (3, [.int nvi, .int nro, .int nwa, .int nlz, .int nds, .int ndy, .int nga, .int npa, .ref nw0, .ref nw1, .ref nw2, .ref nw3, .ref nw4, .ref nw5, .ref nw6, .ref nw7])), (nw0, .inl (cI, 8, .inl nfw)), (nw1, .inl (cI, 8, .inl nfo)), (nw2, .inl (cI, 8, .inl nfr)), (nw3, .inl (cI, 8, .inl nfn)), (nw4, .inl (cI, 8, .inl nft)), (nw5, .inl (cI, 3, .inl nfk)), (nw6, .inl (cI, 3, .inl nfa)), (nw7, .inl (cI, 3, .inl nfb))] := hD
      have c5_0 := hw_5
      have c5_0 : 0 ≤ v5_0.toInt ∧ v5_0.toInt ≤ 16 := c5_0
      refine lv_aload_n hx hb dX1_gives_111 rfl (lv_at hl 1 rfl) ?_
      refine lv_iload_n hx hb dX1_gives_112 rfl (lv_at hl 3 rfl) ?_
      refine lv_iconst (v := 1) hx hb dX1_gives_113 (by decide) ?_
      refine lv_iload hx hb dX1_gives_114 (lv_at hl 0 rfl) ?_
      have k_6 := (g_X1_asked_4 l D cI cB cQ z H.size h nw bo nw0 nw1 nw2 nw3 nw4 nw5 nw6 nw7 v5_0 nvi nro nwa nlz nds ndy nga npa w 1 v5_1 nfw nfo nfr nfn nft nfk nfa nfb nha (by omega) (by omega) (by omega) (by omega))
      refine wc_i (WC := [(h, .inr (1, [.ref nw, .ref bo, .int v5_0])), (bo, .inl (cI, 16, .inl v5_1)), (nw, .inr (3, [.int nvi, .int nro, .int nwa, .int nlz, .int nds, .int ndy, .int nga, .int npa, .ref nw0, .ref nw1, .ref nw2, .ref nw3, .ref nw4, .ref nw5, .ref nw6, .ref nw7])), (nw0, .inl (cI, 8, .inl nfw)), (nw1, .inl (cI, 8, .inl nfo)), (nw2, .inl (cI, 8, .inl nfr)), (nw3, .inl (cI, 8, .inl nfn)), (nw4, .inl (cI, 8, .inl nft)), (nw5, .inl (cI, 3, .inl nfk)), (nw6, .inl (cI, 3, .inl nfa)), (nw7, .inl (cI, 3, .inl nfb))]) (WR := []) (va_runV (As := [.int w, .int 1, .int 4]) (rest := [.int r_5]) ⟨hx, hb, hml, hown, hts⟩ k_6 (cwV 3 hts gX1_gives_X1_asked rfl rfl rfl (by decide +kernel) ⟨Nat.le_of_ble_eq_true rfl, Nat.le_of_ble_eq_true rfl⟩) (wpz_V hZ hS hAb hP hK hD hN [0, 1, 2, 3, 4, 5, 6, 7, 8, 9, 10] (by decide) rfl (ci := 1) rfl rfl) rfl rfl hl.1 rfl (lv_room (Nat.le_of_ble_eq_true rfl)) dX1_gives_116 ⟨Nat.le_of_ble_eq_true rfl, Nat.le_of_ble_eq_true rfl⟩) hP hD hS hA [0, 1, 2, 3, 4, 5, 6, 7, 8, 9, 10] [] rfl rfl (by decide) (by decide) (fun r_6 u_6 H locs hw_6 hP hD hS => ?_)
      clear k_6
      obtain ⟨v6_0, v6_1⟩ := u_6
      have hP : va_P D kl [(h, .inr (1, [.ref nw, .ref bo, .int v6_0])), (bo, .inl (cI, 16, .inl v6_1)), (nw, .inr (3, [.int nvi, .int nro, .int nwa, .int nlz, .int nds, .int ndy, .int nga, .int npa, .ref nw0, .ref nw1, .ref nw2, .ref nw3, .ref nw4, .ref nw5, .ref nw6, .ref nw7])), (nw0, .inl (cI, 8, .inl nfw)), (nw1, .inl (cI, 8, .inl nfo)), (nw2, .inl (cI, 8, .inl nfr)), (nw3, .inl (cI, 8, .inl nfn)), (nw4, .inl (cI, 8, .inl nft)), (nw5, .inl (cI, 3, .inl nfk)), (nw6, .inl (cI, 3, .inl nfa)), (nw7, .inl (cI, 3, .inl nfb))] H := hP
      have hD : va_D A [(h, .inr (1, [.ref nw, .ref bo, .int v6_0])), (bo, .inl (cI, 16, .inl v6_1)), (nw, .inr (3, [.int nvi, .int nro, .int nwa, .int nlz, .int nds, .int ndy, .int nga, .int npa, .ref nw0, .ref nw1, .ref nw2, .ref nw3, .ref nw4, .ref nw5, .ref nw6, .ref nw7])), (nw0, .inl (cI, 8, .inl nfw)), (nw1, .inl (cI, 8, .inl nfo)), (nw2, .inl (cI, 8, .inl nfr)), (nw3, .inl (cI, 8, .inl nfn)), (nw4, .inl (cI, 8, .inl nft)), (nw5, .inl (cI, 3, .inl nfk)), (nw6, .inl (cI, 3, .inl nfa)), (nw7, .inl (cI, 3, .inl nfb))] := hD
      have c6_0 := hw_6
      have c6_0 : 0 ≤ v6_0.toInt ∧ v6_0.toInt ≤ 16 := c6_0
      refine lv_iadd hx hb dX1_gives_119 ?_
      refine lv_topi (fun x_7 ex_7 => ?_)
      clear ex_7
      exact wr_i (v := x_7) hx hb hr hlocks hS (v6_0, v6_1) (by exact show 0 ≤ (v6_0 : Int32).toInt ∧ (v6_0 : Int32).toInt ≤ 16 from by omega) (hP.sub [0, 1, 2, 3, 4, 5, 6, 7, 8, 9, 10] rfl) (hD.sub [0, 1, 2, 3, 4, 5, 6, 7, 8, 9, 10] (by decide) rfl) dX1_gives_120
    · refine lv_tableIn (off := 102) (tgt := 121) hx hb dX1_gives_19 (by omega) (by omega) (by rw [g_3]; rfl) (by decide) ?_
      refine lv_aload_n hx hb dX1_gives_121 rfl (lv_at hl 1 rfl) ?_
      refine lv_bipush (v := 11) hx hb dX1_gives_122 (by decide) ?_
      refine lv_iload_n hx hb dX1_gives_124 rfl (lv_at hl 3 rfl) ?_
      refine lv_iload hx hb dX1_gives_125 (lv_at hl 0 rfl) ?_
      have k_8 := (g_X1_gives_4 l D cI cB cQ z H.size h nw bo nw0 nw1 nw2 nw3 nw4 nw5 nw6 nw7 v1_0 nvi nro nwa nlz nds ndy nga npa 11 w v1_1 nfw nfo nfr nfn nft nfk nfa nfb nha (by omega) (by omega) (by omega) (by omega))
      refine wc_i (WC := [(h, .inr (1, [.ref nw, .ref bo, .int v1_0])), (bo, .inl (cI, 16, .inl v1_1)), (nw, .inr (3, [.int nvi, .int nro, .int nwa, .int nlz, .int nds, .int ndy, .int nga, .int npa, .ref nw0, .ref nw1, .ref nw2, .ref nw3, .ref nw4, .ref nw5, .ref nw6, .ref nw7])), (nw0, .inl (cI, 8, .inl nfw)), (nw1, .inl (cI, 8, .inl nfo)), (nw2, .inl (cI, 8, .inl nfr)), (nw3, .inl (cI, 8, .inl nfn)), (nw4, .inl (cI, 8, .inl nft)), (nw5, .inl (cI, 3, .inl nfk)), (nw6, .inl (cI, 3, .inl nfa)), (nw7, .inl (cI, 3, .inl nfb))]) (WR := []) (va_runV (As := [.int 11, .int w, .int 4]) (rest := []) ⟨hx, hb, hml, hown, hts⟩ k_8 (cwV 3 hts gX1_gives_X1_gives rfl rfl rfl (by decide +kernel) ⟨Nat.le_of_ble_eq_true rfl, Nat.le_of_ble_eq_true rfl⟩) (wpz_V hZ hS hAb hP hK hD hN [9, 10, 0, 1, 2, 3, 4, 5, 6, 7, 8] (by decide) rfl (ci := 1) rfl rfl) rfl rfl hl.1 rfl (lv_room (Nat.le_of_ble_eq_true rfl)) dX1_gives_127 ⟨Nat.le_of_ble_eq_true rfl, Nat.le_of_ble_eq_true rfl⟩) hP hD hS hA [9, 10, 0, 1, 2, 3, 4, 5, 6, 7, 8] [] rfl rfl (by decide) (by decide) (fun r_8 u_8 H locs hw_8 hP hD hS => ?_)
      clear k_8
      obtain ⟨v8_0, v8_1⟩ := u_8
      have hP : va_P D kl [(h, .inr (1, [.ref nw, .ref bo, .int v8_0])), (bo, .inl (cI, 16, .inl v8_1)), (nw, .inr (3, [.int nvi, .int nro, .int nwa, .int nlz, .int nds, .int ndy, .int nga, .int npa, .ref nw0, .ref nw1, .ref nw2, .ref nw3, .ref nw4, .ref nw5, .ref nw6, .ref nw7])), (nw0, .inl (cI, 8, .inl nfw)), (nw1, .inl (cI, 8, .inl nfo)), (nw2, .inl (cI, 8, .inl nfr)), (nw3, .inl (cI, 8, .inl nfn)), (nw4, .inl (cI, 8, .inl nft)), (nw5, .inl (cI, 3, .inl nfk)), (nw6, .inl (cI, 3, .inl nfa)), (nw7, .inl (cI, 3, .inl nfb))] H := hP
      have hD : va_D A [(h, .inr (1, [.ref nw, .ref bo, .int v8_0])), (bo, .inl (cI, 16, .inl v8_1)), (nw, .inr (3, [.int nvi, .int nro, .int nwa, .int nlz, .int nds, .int ndy, .int nga, .int npa, .ref nw0, .ref nw1, .ref nw2, .ref nw3, .ref nw4, .ref nw5, .ref nw6, .ref nw7])), (nw0, .inl (cI, 8, .inl nfw)), (nw1, .inl (cI, 8, .inl nfo)), (nw2, .inl (cI, 8, .inl nfr)), (nw3, .inl (cI, 8, .inl nfn)), (nw4, .inl (cI, 8, .inl nft)), (nw5, .inl (cI, 3, .inl nfk)), (nw6, .inl (cI, 3, .inl nfa)), (nw7, .inl (cI, 3, .inl nfb))] := hD
      have c8_0 := hw_8
      have c8_0 : 0 ≤ v8_0.toInt ∧ v8_0.toInt ≤ 16 := c8_0
      refine lv_ineg hx hb dX1_gives_130 ?_
      refine lv_topi (fun x_9 ex_9 => ?_)
      clear ex_9
      exact wr_i (v := x_9) hx hb hr hlocks hS (v8_0, v8_1) (by exact show 0 ≤ (v8_0 : Int32).toInt ∧ (v8_0 : Int32).toInt ≤ 16 from by omega) (hP.sub [0, 1, 2, 3, 4, 5, 6, 7, 8, 9, 10] rfl) (hD.sub [0, 1, 2, 3, 4, 5, 6, 7, 8, 9, 10] (by decide) rfl) dX1_gives_131
    · refine lv_tableIn (off := 113) (tgt := 132) hx hb dX1_gives_19 (by omega) (by omega) (by rw [g_3]; rfl) (by decide) ?_
      refine lv_aload_n hx hb dX1_gives_132 rfl (lv_at hl 1 rfl) ?_
      refine lv_bipush (v := 10) hx hb dX1_gives_133 (by decide) ?_
      refine lv_iload_n hx hb dX1_gives_135 rfl (lv_at hl 3 rfl) ?_
      refine lv_iload hx hb dX1_gives_136 (lv_at hl 0 rfl) ?_
      have k_10 := (g_X1_gives_4 l D cI cB cQ z H.size h nw bo nw0 nw1 nw2 nw3 nw4 nw5 nw6 nw7 v1_0 nvi nro nwa nlz nds ndy nga npa 10 w v1_1 nfw nfo nfr nfn nft nfk nfa nfb nha (by omega) (by omega) (by omega) (by omega))
      refine wc_i (WC := [(h, .inr (1, [.ref nw, .ref bo, .int v1_0])), (bo, .inl (cI, 16, .inl v1_1)), (nw, .inr (3, [.int nvi, .int nro, .int nwa, .int nlz, .int nds, .int ndy, .int nga, .int npa, .ref nw0, .ref nw1, .ref nw2, .ref nw3, .ref nw4, .ref nw5, .ref nw6, .ref nw7])), (nw0, .inl (cI, 8, .inl nfw)), (nw1, .inl (cI, 8, .inl nfo)), (nw2, .inl (cI, 8, .inl nfr)), (nw3, .inl (cI, 8, .inl nfn)), (nw4, .inl (cI, 8, .inl nft)), (nw5, .inl (cI, 3, .inl nfk)), (nw6, .inl (cI, 3, .inl nfa)), (nw7, .inl (cI, 3, .inl nfb))]) (WR := []) (va_runV (As := [.int 10, .int w, .int 4]) (rest := []) ⟨hx, hb, hml, hown, hts⟩ k_10 (cwV 3 hts gX1_gives_X1_gives rfl rfl rfl (by decide +kernel) ⟨Nat.le_of_ble_eq_true rfl, Nat.le_of_ble_eq_true rfl⟩) (wpz_V hZ hS hAb hP hK hD hN [9, 10, 0, 1, 2, 3, 4, 5, 6, 7, 8] (by decide) rfl (ci := 1) rfl rfl) rfl rfl hl.1 rfl (lv_room (Nat.le_of_ble_eq_true rfl)) dX1_gives_138 ⟨Nat.le_of_ble_eq_true rfl, Nat.le_of_ble_eq_true rfl⟩) hP hD hS hA [9, 10, 0, 1, 2, 3, 4, 5, 6, 7, 8] [] rfl rfl (by decide) (by decide) (fun r_10 u_10 H locs hw_10 hP hD hS => ?_)
      clear k_10
      obtain ⟨v10_0, v10_1⟩ := u_10
      have hP : va_P D kl [(h, .inr (1, [.ref nw, .ref bo, .int v10_0])), (bo, .inl (cI, 16, .inl v10_1)), (nw, .inr (3, [.int nvi, .int nro, .int nwa, .int nlz, .int nds, .int ndy, .int nga, .int npa, .ref nw0, .ref nw1, .ref nw2, .ref nw3, .ref nw4, .ref nw5, .ref nw6, .ref nw7])), (nw0, .inl (cI, 8, .inl nfw)), (nw1, .inl (cI, 8, .inl nfo)), (nw2, .inl (cI, 8, .inl nfr)), (nw3, .inl (cI, 8, .inl nfn)), (nw4, .inl (cI, 8, .inl nft)), (nw5, .inl (cI, 3, .inl nfk)), (nw6, .inl (cI, 3, .inl nfa)), (nw7, .inl (cI, 3, .inl nfb))] H := hP
      have hD : va_D A [(h, .inr (1, [.ref nw, .ref bo, .int v10_0])), (bo, .inl (cI, 16, .inl v10_1)), (nw, .inr (3, [.int nvi, .int nro, .int nwa, .int nlz, .int nds, .int ndy, .int nga, .int npa, .ref nw0, .ref nw1, .ref nw2, .ref nw3, .ref nw4, .ref nw5, .ref nw6, .ref nw7])), (nw0, .inl (cI, 8, .inl nfw)), (nw1, .inl (cI, 8, .inl nfo)), (nw2, .inl (cI, 8, .inl nfr)), (nw3, .inl (cI, 8, .inl nfn)), (nw4, .inl (cI, 8, .inl nft)), (nw5, .inl (cI, 3, .inl nfk)), (nw6, .inl (cI, 3, .inl nfa)), (nw7, .inl (cI, 3, .inl nfb))] := hD
      have c10_0 := hw_10
      have c10_0 : 0 ≤ v10_0.toInt ∧ v10_0.toInt ≤ 16 := c10_0
      refine lv_bipush (v := 100) hx hb dX1_gives_141 (by decide) ?_
      refine lv_isub hx hb dX1_gives_143 ?_
      refine lv_topi (fun x_11 ex_11 => ?_)
      clear ex_11
      exact wr_i (v := x_11) hx hb hr hlocks hS (v10_0, v10_1) (by exact show 0 ≤ (v10_0 : Int32).toInt ∧ (v10_0 : Int32).toInt ≤ 16 from by omega) (hP.sub [0, 1, 2, 3, 4, 5, 6, 7, 8, 9, 10] rfl) (hD.sub [0, 1, 2, 3, 4, 5, 6, 7, 8, 9, 10] (by decide) rfl) dX1_gives_144
    · refine lv_tableIn (off := 126) (tgt := 145) hx hb dX1_gives_19 (by omega) (by omega) (by rw [g_3]; rfl) (by decide) ?_
      refine lv_iconst (v := 2) hx hb dX1_gives_145 (by decide) ?_
      refine lv_aload_n hx hb dX1_gives_146 rfl (lv_at hl 1 rfl) ?_
      refine lv_bipush (v := 13) hx hb dX1_gives_147 (by decide) ?_
      refine lv_iload_n hx hb dX1_gives_149 rfl (lv_at hl 3 rfl) ?_
      refine lv_iload hx hb dX1_gives_150 (lv_at hl 0 rfl) ?_
      have k_12 := (g_X1_gives_4 l D cI cB cQ z H.size h nw bo nw0 nw1 nw2 nw3 nw4 nw5 nw6 nw7 v1_0 nvi nro nwa nlz nds ndy nga npa 13 w v1_1 nfw nfo nfr nfn nft nfk nfa nfb nha (by omega) (by omega) (by omega) (by omega))
      refine wc_i (WC := [(h, .inr (1, [.ref nw, .ref bo, .int v1_0])), (bo, .inl (cI, 16, .inl v1_1)), (nw, .inr (3, [.int nvi, .int nro, .int nwa, .int nlz, .int nds, .int ndy, .int nga, .int npa, .ref nw0, .ref nw1, .ref nw2, .ref nw3, .ref nw4, .ref nw5, .ref nw6, .ref nw7])), (nw0, .inl (cI, 8, .inl nfw)), (nw1, .inl (cI, 8, .inl nfo)), (nw2, .inl (cI, 8, .inl nfr)), (nw3, .inl (cI, 8, .inl nfn)), (nw4, .inl (cI, 8, .inl nft)), (nw5, .inl (cI, 3, .inl nfk)), (nw6, .inl (cI, 3, .inl nfa)), (nw7, .inl (cI, 3, .inl nfb))]) (WR := []) (va_runV (As := [.int 13, .int w, .int 4]) (rest := [.int 2]) ⟨hx, hb, hml, hown, hts⟩ k_12 (cwV 3 hts gX1_gives_X1_gives rfl rfl rfl (by decide +kernel) ⟨Nat.le_of_ble_eq_true rfl, Nat.le_of_ble_eq_true rfl⟩) (wpz_V hZ hS hAb hP hK hD hN [9, 10, 0, 1, 2, 3, 4, 5, 6, 7, 8] (by decide) rfl (ci := 1) rfl rfl) rfl rfl hl.1 rfl (lv_room (Nat.le_of_ble_eq_true rfl)) dX1_gives_152 ⟨Nat.le_of_ble_eq_true rfl, Nat.le_of_ble_eq_true rfl⟩) hP hD hS hA [9, 10, 0, 1, 2, 3, 4, 5, 6, 7, 8] [] rfl rfl (by decide) (by decide) (fun r_12 u_12 H locs hw_12 hP hD hS => ?_)
      clear k_12
      obtain ⟨v12_0, v12_1⟩ := u_12
      have hP : va_P D kl [(h, .inr (1, [.ref nw, .ref bo, .int v12_0])), (bo, .inl (cI, 16, .inl v12_1)), (nw, .inr (3, [.int nvi, .int nro, .int nwa, .int nlz, .int nds, .int ndy, .int nga, .int npa, .ref nw0, .ref nw1, .ref nw2, .ref nw3, .ref nw4, .ref nw5, .ref nw6, .ref nw7])), (nw0, .inl (cI, 8, .inl nfw)), (nw1, .inl (cI, 8, .inl nfo)), (nw2, .inl (cI, 8, .inl nfr)), (nw3, .inl (cI, 8, .inl nfn)), (nw4, .inl (cI, 8, .inl nft)), (nw5, .inl (cI, 3, .inl nfk)), (nw6, .inl (cI, 3, .inl nfa)), (nw7, .inl (cI, 3, .inl nfb))] H := hP
      have hD : va_D A [(h, .inr (1, [.ref nw, .ref bo, .int v12_0])), (bo, .inl (cI, 16, .inl v12_1)), (nw, .inr (3, [.int nvi, .int nro, .int nwa, .int nlz, .int nds, .int ndy, .int nga, .int npa, .ref nw0, .ref nw1, .ref nw2, .ref nw3, .ref nw4, .ref nw5, .ref nw6, .ref nw7])), (nw0, .inl (cI, 8, .inl nfw)), (nw1, .inl (cI, 8, .inl nfo)), (nw2, .inl (cI, 8, .inl nfr)), (nw3, .inl (cI, 8, .inl nfn)), (nw4, .inl (cI, 8, .inl nft)), (nw5, .inl (cI, 3, .inl nfk)), (nw6, .inl (cI, 3, .inl nfa)), (nw7, .inl (cI, 3, .inl nfb))] := hD
      have c12_0 := hw_12
      have c12_0 : 0 ≤ v12_0.toInt ∧ v12_0.toInt ≤ 16 := c12_0
      refine lv_imul hx hb dX1_gives_155 ?_
      refine lv_topi (fun x_13 ex_13 => ?_)
      clear ex_13
      exact wr_i (v := x_13) hx hb hr hlocks hS (v12_0, v12_1) (by exact show 0 ≤ (v12_0 : Int32).toInt ∧ (v12_0 : Int32).toInt ≤ 16 from by omega) (hP.sub [0, 1, 2, 3, 4, 5, 6, 7, 8, 9, 10] rfl) (hD.sub [0, 1, 2, 3, 4, 5, 6, 7, 8, 9, 10] (by decide) rfl) dX1_gives_156
    · refine lv_tableIn (off := 213) (tgt := 232) hx hb dX1_gives_19 (by omega) (by omega) (by rw [g_3]; rfl) (by decide) ?_
      refine lv_iconst (v := 0) hx hb dX1_gives_232 (by decide) ?_
      exact wr_i (v := 0) hx hb hr hlocks hS (v1_0, v1_1) (by exact show 0 ≤ (v1_0 : Int32).toInt ∧ (v1_0 : Int32).toInt ≤ 16 from by omega) (hP.sub [9, 10, 0, 1, 2, 3, 4, 5, 6, 7, 8] rfl) (hD.sub [9, 10, 0, 1, 2, 3, 4, 5, 6, 7, 8] (by decide) rfl) dX1_gives_233
    · refine lv_tableIn (off := 213) (tgt := 232) hx hb dX1_gives_19 (by omega) (by omega) (by rw [g_3]; rfl) (by decide) ?_
      refine lv_iconst (v := 0) hx hb dX1_gives_232 (by decide) ?_
      exact wr_i (v := 0) hx hb hr hlocks hS (v1_0, v1_1) (by exact show 0 ≤ (v1_0 : Int32).toInt ∧ (v1_0 : Int32).toInt ≤ 16 from by omega) (hP.sub [9, 10, 0, 1, 2, 3, 4, 5, 6, 7, 8] rfl) (hD.sub [9, 10, 0, 1, 2, 3, 4, 5, 6, 7, 8] (by decide) rfl) dX1_gives_233
    · refine lv_tableIn (off := 213) (tgt := 232) hx hb dX1_gives_19 (by omega) (by omega) (by rw [g_3]; rfl) (by decide) ?_
      refine lv_iconst (v := 0) hx hb dX1_gives_232 (by decide) ?_
      exact wr_i (v := 0) hx hb hr hlocks hS (v1_0, v1_1) (by exact show 0 ≤ (v1_0 : Int32).toInt ∧ (v1_0 : Int32).toInt ≤ 16 from by omega) (hP.sub [9, 10, 0, 1, 2, 3, 4, 5, 6, 7, 8] rfl) (hD.sub [9, 10, 0, 1, 2, 3, 4, 5, 6, 7, 8] (by decide) rfl) dX1_gives_233
    · refine lv_tableIn (off := 213) (tgt := 232) hx hb dX1_gives_19 (by omega) (by omega) (by rw [g_3]; rfl) (by decide) ?_
      refine lv_iconst (v := 0) hx hb dX1_gives_232 (by decide) ?_
      exact wr_i (v := 0) hx hb hr hlocks hS (v1_0, v1_1) (by exact show 0 ≤ (v1_0 : Int32).toInt ∧ (v1_0 : Int32).toInt ≤ 16 from by omega) (hP.sub [9, 10, 0, 1, 2, 3, 4, 5, 6, 7, 8] rfl) (hD.sub [9, 10, 0, 1, 2, 3, 4, 5, 6, 7, 8] (by decide) rfl) dX1_gives_233
    · refine lv_tableIn (off := 213) (tgt := 232) hx hb dX1_gives_19 (by omega) (by omega) (by rw [g_3]; rfl) (by decide) ?_
      refine lv_iconst (v := 0) hx hb dX1_gives_232 (by decide) ?_
      exact wr_i (v := 0) hx hb hr hlocks hS (v1_0, v1_1) (by exact show 0 ≤ (v1_0 : Int32).toInt ∧ (v1_0 : Int32).toInt ≤ 16 from by omega) (hP.sub [9, 10, 0, 1, 2, 3, 4, 5, 6, 7, 8] rfl) (hD.sub [9, 10, 0, 1, 2, 3, 4, 5, 6, 7, 8] (by decide) rfl) dX1_gives_233
    · refine lv_tableIn (off := 138) (tgt := 157) hx hb dX1_gives_19 (by omega) (by omega) (by rw [g_3]; rfl) (by decide) ?_
      refine lv_iload_n hx hb dX1_gives_157 rfl (lv_at hl 3 rfl) ?_
      exact wr_i (v := w) hx hb hr hlocks hS (v1_0, v1_1) (by exact show 0 ≤ (v1_0 : Int32).toInt ∧ (v1_0 : Int32).toInt ≤ 16 from by omega) (hP.sub [9, 10, 0, 1, 2, 3, 4, 5, 6, 7, 8] rfl) (hD.sub [9, 10, 0, 1, 2, 3, 4, 5, 6, 7, 8] (by decide) rfl) dX1_gives_158
    · refine lv_tableIn (off := 140) (tgt := 159) hx hb dX1_gives_19 (by omega) (by omega) (by rw [g_3]; rfl) (by decide) ?_
      refine lv_aload_n hx hb dX1_gives_159 rfl (lv_at hl 1 rfl) ?_
      refine lv_bipush (v := 20) hx hb dX1_gives_160 (by decide) ?_
      refine lv_iload_n hx hb dX1_gives_162 rfl (lv_at hl 3 rfl) ?_
      refine lv_iload hx hb dX1_gives_163 (lv_at hl 0 rfl) ?_
      have k_14 := (g_X1_gives_4 l D cI cB cQ z H.size h nw bo nw0 nw1 nw2 nw3 nw4 nw5 nw6 nw7 v1_0 nvi nro nwa nlz nds ndy nga npa 20 w v1_1 nfw nfo nfr nfn nft nfk nfa nfb nha (by omega) (by omega) (by omega) (by omega))
      refine wc_i (WC := [(h, .inr (1, [.ref nw, .ref bo, .int v1_0])), (bo, .inl (cI, 16, .inl v1_1)), (nw, .inr (3, [.int nvi, .int nro, .int nwa, .int nlz, .int nds, .int ndy, .int nga, .int npa, .ref nw0, .ref nw1, .ref nw2, .ref nw3, .ref nw4, .ref nw5, .ref nw6, .ref nw7])), (nw0, .inl (cI, 8, .inl nfw)), (nw1, .inl (cI, 8, .inl nfo)), (nw2, .inl (cI, 8, .inl nfr)), (nw3, .inl (cI, 8, .inl nfn)), (nw4, .inl (cI, 8, .inl nft)), (nw5, .inl (cI, 3, .inl nfk)), (nw6, .inl (cI, 3, .inl nfa)), (nw7, .inl (cI, 3, .inl nfb))]) (WR := []) (va_runV (As := [.int 20, .int w, .int 4]) (rest := []) ⟨hx, hb, hml, hown, hts⟩ k_14 (cwV 3 hts gX1_gives_X1_gives rfl rfl rfl (by decide +kernel) ⟨Nat.le_of_ble_eq_true rfl, Nat.le_of_ble_eq_true rfl⟩) (wpz_V hZ hS hAb hP hK hD hN [9, 10, 0, 1, 2, 3, 4, 5, 6, 7, 8] (by decide) rfl (ci := 1) rfl rfl) rfl rfl hl.1 rfl (lv_room (Nat.le_of_ble_eq_true rfl)) dX1_gives_165 ⟨Nat.le_of_ble_eq_true rfl, Nat.le_of_ble_eq_true rfl⟩) hP hD hS hA [9, 10, 0, 1, 2, 3, 4, 5, 6, 7, 8] [] rfl rfl (by decide) (by decide) (fun r_14 u_14 H locs hw_14 hP hD hS => ?_)
      clear k_14
      obtain ⟨v14_0, v14_1⟩ := u_14
      have hP : va_P D kl [(h, .inr (1, [.ref nw, .ref bo, .int v14_0])), (bo, .inl (cI, 16, .inl v14_1)), (nw, .inr (3, [.int nvi, .int nro, .int nwa, .int nlz, .int nds, .int ndy, .int nga, .int npa, .ref nw0, .ref nw1, .ref nw2, .ref nw3, .ref nw4, .ref nw5, .ref nw6, .ref nw7])), (nw0, .inl (cI, 8, .inl nfw)), (nw1, .inl (cI, 8, .inl nfo)), (nw2, .inl (cI, 8, .inl nfr)), (nw3, .inl (cI, 8, .inl nfn)), (nw4, .inl (cI, 8, .inl nft)), (nw5, .inl (cI, 3, .inl nfk)), (nw6, .inl (cI, 3, .inl nfa)), (nw7, .inl (cI, 3, .inl nfb))] H := hP
      have hD : va_D A [(h, .inr (1, [.ref nw, .ref bo, .int v14_0])), (bo, .inl (cI, 16, .inl v14_1)), (nw, .inr (3, [.int nvi, .int nro, .int nwa, .int nlz, .int nds, .int ndy, .int nga, .int npa, .ref nw0, .ref nw1, .ref nw2, .ref nw3, .ref nw4, .ref nw5, .ref nw6, .ref nw7])), (nw0, .inl (cI, 8, .inl nfw)), (nw1, .inl (cI, 8, .inl nfo)), (nw2, .inl (cI, 8, .inl nfr)), (nw3, .inl (cI, 8, .inl nfn)), (nw4, .inl (cI, 8, .inl nft)), (nw5, .inl (cI, 3, .inl nfk)), (nw6, .inl (cI, 3, .inl nfa)), (nw7, .inl (cI, 3, .inl nfb))] := hD
      have c14_0 := hw_14
      have c14_0 : 0 ≤ v14_0.toInt ∧ v14_0.toInt ≤ 16 := c14_0
      refine lv_aload_n hx hb dX1_gives_168 rfl (lv_at hl 1 rfl) ?_
      refine va_get (D := D) (ci := 1) (v := .ref nw) (C := RX1) (T := TX1) (N := 3) hx hb hts (fun _ h => List.mem_cons_of_mem _ (List.mem_append_left _ (List.mem_append_right _ h))) hown hK hP 0 rfl rfl 0 (by decide) (hts (.fieldLink RX1 19 "WinterWalk$Asks" "land" "LWinterWalk$Land;") (List.mem_of_getElem? (i := 1) rfl)) (fun _ h9 => h9) rfl dX1_gives_169 ?_
      refine va_get (D := D) (ci := 3) (v := .ref nw1) (C := RX4) (T := TX4) (N := 16) hx hb hts (fun _ h => List.mem_cons_of_mem _ (List.mem_append_right _ h)) hown hK hP 2 rfl rfl 9 (by decide) (hts (.fieldLink RX1 62 "WinterWalk$Land" "offers" "[I") (List.mem_of_getElem? (i := 3) rfl)) (fun _ h9 => h9) rfl dX1_gives_172 ?_
      refine lv_aload_n hx hb dX1_gives_175 rfl (lv_at hl 1 rfl) ?_
      refine va_get (D := D) (ci := 1) (v := .ref nw) (C := RX1) (T := TX1) (N := 3) hx hb hts (fun _ h => List.mem_cons_of_mem _ (List.mem_append_left _ (List.mem_append_right _ h))) hown hK hP 0 rfl rfl 0 (by decide) (hts (.fieldLink RX1 19 "WinterWalk$Asks" "land" "LWinterWalk$Land;") (List.mem_of_getElem? (i := 1) rfl)) (fun _ h9 => h9) rfl dX1_gives_176 ?_
      refine va_get (D := D) (ci := 3) (v := .ref nw6) (C := RX4) (T := TX4) (N := 16) hx hb hts (fun _ h => List.mem_cons_of_mem _ (List.mem_append_right _ h)) hown hK hP 2 rfl rfl 14 (by decide) (hts (.fieldLink RX1 59 "WinterWalk$Land" "at" "[I") (List.mem_of_getElem? (i := 2) rfl)) (fun _ h9 => h9) rfl dX1_gives_179 ?_
      refine lv_iload_n hx hb dX1_gives_182 rfl (lv_at hl 3 rfl) ?_
      refine va_iald hx hb hK hP 9 0 rfl rfl (zi_in (by omega) (by omega)) dX1_gives_183 ?_
      refine lv_topi (fun x_15 ex_15 => ?_)
      have f_15 : 0 ≤ x_15.toInt ∧ x_15.toInt ≤ 7 := by rw [ex_15]; exact nha _ (zi_cl (by omega) (by omega))
      clear ex_15
      refine va_iald hx hb hK hP 4 0 rfl rfl (zi_in (by omega) (by omega)) dX1_gives_184 ?_
      refine lv_topi (fun x_16 ex_16 => ?_)
      clear ex_16
      refine lv_iadd hx hb dX1_gives_185 ?_
      refine lv_topi (fun x_17 ex_17 => ?_)
      clear ex_17
      exact wr_i (v := x_17) hx hb hr hlocks hS (v14_0, v14_1) (by exact show 0 ≤ (v14_0 : Int32).toInt ∧ (v14_0 : Int32).toInt ≤ 16 from by omega) (hP.sub [0, 1, 2, 3, 4, 5, 6, 7, 8, 9, 10] rfl) (hD.sub [0, 1, 2, 3, 4, 5, 6, 7, 8, 9, 10] (by decide) rfl) dX1_gives_186
    · refine lv_tableIn (off := 168) (tgt := 187) hx hb dX1_gives_19 (by omega) (by omega) (by rw [g_3]; rfl) (by decide) ?_
      refine lv_aload_n hx hb dX1_gives_187 rfl (lv_at hl 1 rfl) ?_
      refine lv_bipush (v := 21) hx hb dX1_gives_188 (by decide) ?_
      refine lv_iload_n hx hb dX1_gives_190 rfl (lv_at hl 3 rfl) ?_
      refine lv_iload hx hb dX1_gives_191 (lv_at hl 0 rfl) ?_
      have k_18 := (g_X1_gives_4 l D cI cB cQ z H.size h nw bo nw0 nw1 nw2 nw3 nw4 nw5 nw6 nw7 v1_0 nvi nro nwa nlz nds ndy nga npa 21 w v1_1 nfw nfo nfr nfn nft nfk nfa nfb nha (by omega) (by omega) (by omega) (by omega))
      refine wc_i (WC := [(h, .inr (1, [.ref nw, .ref bo, .int v1_0])), (bo, .inl (cI, 16, .inl v1_1)), (nw, .inr (3, [.int nvi, .int nro, .int nwa, .int nlz, .int nds, .int ndy, .int nga, .int npa, .ref nw0, .ref nw1, .ref nw2, .ref nw3, .ref nw4, .ref nw5, .ref nw6, .ref nw7])), (nw0, .inl (cI, 8, .inl nfw)), (nw1, .inl (cI, 8, .inl nfo)), (nw2, .inl (cI, 8, .inl nfr)), (nw3, .inl (cI, 8, .inl nfn)), (nw4, .inl (cI, 8, .inl nft)), (nw5, .inl (cI, 3, .inl nfk)), (nw6, .inl (cI, 3, .inl nfa)), (nw7, .inl (cI, 3, .inl nfb))]) (WR := []) (va_runV (As := [.int 21, .int w, .int 4]) (rest := []) ⟨hx, hb, hml, hown, hts⟩ k_18 (cwV 3 hts gX1_gives_X1_gives rfl rfl rfl (by decide +kernel) ⟨Nat.le_of_ble_eq_true rfl, Nat.le_of_ble_eq_true rfl⟩) (wpz_V hZ hS hAb hP hK hD hN [9, 10, 0, 1, 2, 3, 4, 5, 6, 7, 8] (by decide) rfl (ci := 1) rfl rfl) rfl rfl hl.1 rfl (lv_room (Nat.le_of_ble_eq_true rfl)) dX1_gives_193 ⟨Nat.le_of_ble_eq_true rfl, Nat.le_of_ble_eq_true rfl⟩) hP hD hS hA [9, 10, 0, 1, 2, 3, 4, 5, 6, 7, 8] [] rfl rfl (by decide) (by decide) (fun r_18 u_18 H locs hw_18 hP hD hS => ?_)
      clear k_18
      obtain ⟨v18_0, v18_1⟩ := u_18
      have hP : va_P D kl [(h, .inr (1, [.ref nw, .ref bo, .int v18_0])), (bo, .inl (cI, 16, .inl v18_1)), (nw, .inr (3, [.int nvi, .int nro, .int nwa, .int nlz, .int nds, .int ndy, .int nga, .int npa, .ref nw0, .ref nw1, .ref nw2, .ref nw3, .ref nw4, .ref nw5, .ref nw6, .ref nw7])), (nw0, .inl (cI, 8, .inl nfw)), (nw1, .inl (cI, 8, .inl nfo)), (nw2, .inl (cI, 8, .inl nfr)), (nw3, .inl (cI, 8, .inl nfn)), (nw4, .inl (cI, 8, .inl nft)), (nw5, .inl (cI, 3, .inl nfk)), (nw6, .inl (cI, 3, .inl nfa)), (nw7, .inl (cI, 3, .inl nfb))] H := hP
      have hD : va_D A [(h, .inr (1, [.ref nw, .ref bo, .int v18_0])), (bo, .inl (cI, 16, .inl v18_1)), (nw, .inr (3, [.int nvi, .int nro, .int nwa, .int nlz, .int nds, .int ndy, .int nga, .int npa, .ref nw0, .ref nw1, .ref nw2, .ref nw3, .ref nw4, .ref nw5, .ref nw6, .ref nw7])), (nw0, .inl (cI, 8, .inl nfw)), (nw1, .inl (cI, 8, .inl nfo)), (nw2, .inl (cI, 8, .inl nfr)), (nw3, .inl (cI, 8, .inl nfn)), (nw4, .inl (cI, 8, .inl nft)), (nw5, .inl (cI, 3, .inl nfk)), (nw6, .inl (cI, 3, .inl nfa)), (nw7, .inl (cI, 3, .inl nfb))] := hD
      have c18_0 := hw_18
      have c18_0 : 0 ≤ v18_0.toInt ∧ v18_0.toInt ≤ 16 := c18_0
      refine lv_sipush (v := 1000) hx hb dX1_gives_196 (by decide) ?_
      refine lv_isub hx hb dX1_gives_199 ?_
      refine lv_topi (fun x_19 ex_19 => ?_)
      clear ex_19
      exact wr_i (v := x_19) hx hb hr hlocks hS (v18_0, v18_1) (by exact show 0 ≤ (v18_0 : Int32).toInt ∧ (v18_0 : Int32).toInt ≤ 16 from by omega) (hP.sub [0, 1, 2, 3, 4, 5, 6, 7, 8, 9, 10] rfl) (hD.sub [0, 1, 2, 3, 4, 5, 6, 7, 8, 9, 10] (by decide) rfl) dX1_gives_200
    · refine lv_tableIn (off := 182) (tgt := 201) hx hb dX1_gives_19 (by omega) (by omega) (by rw [g_3]; rfl) (by decide) ?_
      refine lv_aload_n hx hb dX1_gives_201 rfl (lv_at hl 1 rfl) ?_
      refine lv_bipush (v := 20) hx hb dX1_gives_202 (by decide) ?_
      refine lv_iload_n hx hb dX1_gives_204 rfl (lv_at hl 3 rfl) ?_
      refine lv_iload hx hb dX1_gives_205 (lv_at hl 0 rfl) ?_
      have k_20 := (g_X1_gives_4 l D cI cB cQ z H.size h nw bo nw0 nw1 nw2 nw3 nw4 nw5 nw6 nw7 v1_0 nvi nro nwa nlz nds ndy nga npa 20 w v1_1 nfw nfo nfr nfn nft nfk nfa nfb nha (by omega) (by omega) (by omega) (by omega))
      refine wc_i (WC := [(h, .inr (1, [.ref nw, .ref bo, .int v1_0])), (bo, .inl (cI, 16, .inl v1_1)), (nw, .inr (3, [.int nvi, .int nro, .int nwa, .int nlz, .int nds, .int ndy, .int nga, .int npa, .ref nw0, .ref nw1, .ref nw2, .ref nw3, .ref nw4, .ref nw5, .ref nw6, .ref nw7])), (nw0, .inl (cI, 8, .inl nfw)), (nw1, .inl (cI, 8, .inl nfo)), (nw2, .inl (cI, 8, .inl nfr)), (nw3, .inl (cI, 8, .inl nfn)), (nw4, .inl (cI, 8, .inl nft)), (nw5, .inl (cI, 3, .inl nfk)), (nw6, .inl (cI, 3, .inl nfa)), (nw7, .inl (cI, 3, .inl nfb))]) (WR := []) (va_runV (As := [.int 20, .int w, .int 4]) (rest := []) ⟨hx, hb, hml, hown, hts⟩ k_20 (cwV 3 hts gX1_gives_X1_gives rfl rfl rfl (by decide +kernel) ⟨Nat.le_of_ble_eq_true rfl, Nat.le_of_ble_eq_true rfl⟩) (wpz_V hZ hS hAb hP hK hD hN [9, 10, 0, 1, 2, 3, 4, 5, 6, 7, 8] (by decide) rfl (ci := 1) rfl rfl) rfl rfl hl.1 rfl (lv_room (Nat.le_of_ble_eq_true rfl)) dX1_gives_207 ⟨Nat.le_of_ble_eq_true rfl, Nat.le_of_ble_eq_true rfl⟩) hP hD hS hA [9, 10, 0, 1, 2, 3, 4, 5, 6, 7, 8] [] rfl rfl (by decide) (by decide) (fun r_20 u_20 H locs hw_20 hP hD hS => ?_)
      clear k_20
      obtain ⟨v20_0, v20_1⟩ := u_20
      have hP : va_P D kl [(h, .inr (1, [.ref nw, .ref bo, .int v20_0])), (bo, .inl (cI, 16, .inl v20_1)), (nw, .inr (3, [.int nvi, .int nro, .int nwa, .int nlz, .int nds, .int ndy, .int nga, .int npa, .ref nw0, .ref nw1, .ref nw2, .ref nw3, .ref nw4, .ref nw5, .ref nw6, .ref nw7])), (nw0, .inl (cI, 8, .inl nfw)), (nw1, .inl (cI, 8, .inl nfo)), (nw2, .inl (cI, 8, .inl nfr)), (nw3, .inl (cI, 8, .inl nfn)), (nw4, .inl (cI, 8, .inl nft)), (nw5, .inl (cI, 3, .inl nfk)), (nw6, .inl (cI, 3, .inl nfa)), (nw7, .inl (cI, 3, .inl nfb))] H := hP
      have hD : va_D A [(h, .inr (1, [.ref nw, .ref bo, .int v20_0])), (bo, .inl (cI, 16, .inl v20_1)), (nw, .inr (3, [.int nvi, .int nro, .int nwa, .int nlz, .int nds, .int ndy, .int nga, .int npa, .ref nw0, .ref nw1, .ref nw2, .ref nw3, .ref nw4, .ref nw5, .ref nw6, .ref nw7])), (nw0, .inl (cI, 8, .inl nfw)), (nw1, .inl (cI, 8, .inl nfo)), (nw2, .inl (cI, 8, .inl nfr)), (nw3, .inl (cI, 8, .inl nfn)), (nw4, .inl (cI, 8, .inl nft)), (nw5, .inl (cI, 3, .inl nfk)), (nw6, .inl (cI, 3, .inl nfa)), (nw7, .inl (cI, 3, .inl nfb))] := hD
      have c20_0 := hw_20
      have c20_0 : 0 ≤ v20_0.toInt ∧ v20_0.toInt ≤ 16 := c20_0
      refine lv_aload_n hx hb dX1_gives_210 rfl (lv_at hl 1 rfl) ?_
      refine lv_iload_n hx hb dX1_gives_211 rfl (lv_at hl 3 rfl) ?_
      refine lv_iconst (v := 0) hx hb dX1_gives_212 (by decide) ?_
      refine lv_iload hx hb dX1_gives_213 (lv_at hl 0 rfl) ?_
      have k_21 := (g_X1_asked_4 l D cI cB cQ z H.size h nw bo nw0 nw1 nw2 nw3 nw4 nw5 nw6 nw7 v20_0 nvi nro nwa nlz nds ndy nga npa w 0 v20_1 nfw nfo nfr nfn nft nfk nfa nfb nha (by omega) (by omega) (by omega) (by omega))
      refine wc_i (WC := [(h, .inr (1, [.ref nw, .ref bo, .int v20_0])), (bo, .inl (cI, 16, .inl v20_1)), (nw, .inr (3, [.int nvi, .int nro, .int nwa, .int nlz, .int nds, .int ndy, .int nga, .int npa, .ref nw0, .ref nw1, .ref nw2, .ref nw3, .ref nw4, .ref nw5, .ref nw6, .ref nw7])), (nw0, .inl (cI, 8, .inl nfw)), (nw1, .inl (cI, 8, .inl nfo)), (nw2, .inl (cI, 8, .inl nfr)), (nw3, .inl (cI, 8, .inl nfn)), (nw4, .inl (cI, 8, .inl nft)), (nw5, .inl (cI, 3, .inl nfk)), (nw6, .inl (cI, 3, .inl nfa)), (nw7, .inl (cI, 3, .inl nfb))]) (WR := []) (va_runV (As := [.int w, .int 0, .int 4]) (rest := [.int r_20]) ⟨hx, hb, hml, hown, hts⟩ k_21 (cwV 3 hts gX1_gives_X1_asked rfl rfl rfl (by decide +kernel) ⟨Nat.le_of_ble_eq_true rfl, Nat.le_of_ble_eq_true rfl⟩) (wpz_V hZ hS hAb hP hK hD hN [0, 1, 2, 3, 4, 5, 6, 7, 8, 9, 10] (by decide) rfl (ci := 1) rfl rfl) rfl rfl hl.1 rfl (lv_room (Nat.le_of_ble_eq_true rfl)) dX1_gives_215 ⟨Nat.le_of_ble_eq_true rfl, Nat.le_of_ble_eq_true rfl⟩) hP hD hS hA [0, 1, 2, 3, 4, 5, 6, 7, 8, 9, 10] [] rfl rfl (by decide) (by decide) (fun r_21 u_21 H locs hw_21 hP hD hS => ?_)
      clear k_21
      obtain ⟨v21_0, v21_1⟩ := u_21
      have hP : va_P D kl [(h, .inr (1, [.ref nw, .ref bo, .int v21_0])), (bo, .inl (cI, 16, .inl v21_1)), (nw, .inr (3, [.int nvi, .int nro, .int nwa, .int nlz, .int nds, .int ndy, .int nga, .int npa, .ref nw0, .ref nw1, .ref nw2, .ref nw3, .ref nw4, .ref nw5, .ref nw6, .ref nw7])), (nw0, .inl (cI, 8, .inl nfw)), (nw1, .inl (cI, 8, .inl nfo)), (nw2, .inl (cI, 8, .inl nfr)), (nw3, .inl (cI, 8, .inl nfn)), (nw4, .inl (cI, 8, .inl nft)), (nw5, .inl (cI, 3, .inl nfk)), (nw6, .inl (cI, 3, .inl nfa)), (nw7, .inl (cI, 3, .inl nfb))] H := hP
      have hD : va_D A [(h, .inr (1, [.ref nw, .ref bo, .int v21_0])), (bo, .inl (cI, 16, .inl v21_1)), (nw, .inr (3, [.int nvi, .int nro, .int nwa, .int nlz, .int nds, .int ndy, .int nga, .int npa, .ref nw0, .ref nw1, .ref nw2, .ref nw3, .ref nw4, .ref nw5, .ref nw6, .ref nw7])), (nw0, .inl (cI, 8, .inl nfw)), (nw1, .inl (cI, 8, .inl nfo)), (nw2, .inl (cI, 8, .inl nfr)), (nw3, .inl (cI, 8, .inl nfn)), (nw4, .inl (cI, 8, .inl nft)), (nw5, .inl (cI, 3, .inl nfk)), (nw6, .inl (cI, 3, .inl nfa)), (nw7, .inl (cI, 3, .inl nfb))] := hD
      have c21_0 := hw_21
      have c21_0 : 0 ≤ v21_0.toInt ∧ v21_0.toInt ≤ 16 := c21_0
      refine lv_isub hx hb dX1_gives_218 ?_
      refine lv_topi (fun x_22 ex_22 => ?_)
      clear ex_22
      exact wr_i (v := x_22) hx hb hr hlocks hS (v21_0, v21_1) (by exact show 0 ≤ (v21_0 : Int32).toInt ∧ (v21_0 : Int32).toInt ≤ 16 from by omega) (hP.sub [0, 1, 2, 3, 4, 5, 6, 7, 8, 9, 10] rfl) (hD.sub [0, 1, 2, 3, 4, 5, 6, 7, 8, 9, 10] (by decide) rfl) dX1_gives_219
    · refine lv_tableIn (off := 201) (tgt := 220) hx hb dX1_gives_19 (by omega) (by omega) (by rw [g_3]; rfl) (by decide) ?_
      refine lv_iconst (v := 2) hx hb dX1_gives_220 (by decide) ?_
      refine lv_aload_n hx hb dX1_gives_221 rfl (lv_at hl 1 rfl) ?_
      refine lv_bipush (v := 21) hx hb dX1_gives_222 (by decide) ?_
      refine lv_iload_n hx hb dX1_gives_224 rfl (lv_at hl 3 rfl) ?_
      refine lv_iload hx hb dX1_gives_225 (lv_at hl 0 rfl) ?_
      have k_23 := (g_X1_gives_4 l D cI cB cQ z H.size h nw bo nw0 nw1 nw2 nw3 nw4 nw5 nw6 nw7 v1_0 nvi nro nwa nlz nds ndy nga npa 21 w v1_1 nfw nfo nfr nfn nft nfk nfa nfb nha (by omega) (by omega) (by omega) (by omega))
      refine wc_i (WC := [(h, .inr (1, [.ref nw, .ref bo, .int v1_0])), (bo, .inl (cI, 16, .inl v1_1)), (nw, .inr (3, [.int nvi, .int nro, .int nwa, .int nlz, .int nds, .int ndy, .int nga, .int npa, .ref nw0, .ref nw1, .ref nw2, .ref nw3, .ref nw4, .ref nw5, .ref nw6, .ref nw7])), (nw0, .inl (cI, 8, .inl nfw)), (nw1, .inl (cI, 8, .inl nfo)), (nw2, .inl (cI, 8, .inl nfr)), (nw3, .inl (cI, 8, .inl nfn)), (nw4, .inl (cI, 8, .inl nft)), (nw5, .inl (cI, 3, .inl nfk)), (nw6, .inl (cI, 3, .inl nfa)), (nw7, .inl (cI, 3, .inl nfb))]) (WR := []) (va_runV (As := [.int 21, .int w, .int 4]) (rest := [.int 2]) ⟨hx, hb, hml, hown, hts⟩ k_23 (cwV 3 hts gX1_gives_X1_gives rfl rfl rfl (by decide +kernel) ⟨Nat.le_of_ble_eq_true rfl, Nat.le_of_ble_eq_true rfl⟩) (wpz_V hZ hS hAb hP hK hD hN [9, 10, 0, 1, 2, 3, 4, 5, 6, 7, 8] (by decide) rfl (ci := 1) rfl rfl) rfl rfl hl.1 rfl (lv_room (Nat.le_of_ble_eq_true rfl)) dX1_gives_227 ⟨Nat.le_of_ble_eq_true rfl, Nat.le_of_ble_eq_true rfl⟩) hP hD hS hA [9, 10, 0, 1, 2, 3, 4, 5, 6, 7, 8] [] rfl rfl (by decide) (by decide) (fun r_23 u_23 H locs hw_23 hP hD hS => ?_)
      clear k_23
      obtain ⟨v23_0, v23_1⟩ := u_23
      have hP : va_P D kl [(h, .inr (1, [.ref nw, .ref bo, .int v23_0])), (bo, .inl (cI, 16, .inl v23_1)), (nw, .inr (3, [.int nvi, .int nro, .int nwa, .int nlz, .int nds, .int ndy, .int nga, .int npa, .ref nw0, .ref nw1, .ref nw2, .ref nw3, .ref nw4, .ref nw5, .ref nw6, .ref nw7])), (nw0, .inl (cI, 8, .inl nfw)), (nw1, .inl (cI, 8, .inl nfo)), (nw2, .inl (cI, 8, .inl nfr)), (nw3, .inl (cI, 8, .inl nfn)), (nw4, .inl (cI, 8, .inl nft)), (nw5, .inl (cI, 3, .inl nfk)), (nw6, .inl (cI, 3, .inl nfa)), (nw7, .inl (cI, 3, .inl nfb))] H := hP
      have hD : va_D A [(h, .inr (1, [.ref nw, .ref bo, .int v23_0])), (bo, .inl (cI, 16, .inl v23_1)), (nw, .inr (3, [.int nvi, .int nro, .int nwa, .int nlz, .int nds, .int ndy, .int nga, .int npa, .ref nw0, .ref nw1, .ref nw2, .ref nw3, .ref nw4, .ref nw5, .ref nw6, .ref nw7])), (nw0, .inl (cI, 8, .inl nfw)), (nw1, .inl (cI, 8, .inl nfo)), (nw2, .inl (cI, 8, .inl nfr)), (nw3, .inl (cI, 8, .inl nfn)), (nw4, .inl (cI, 8, .inl nft)), (nw5, .inl (cI, 3, .inl nfk)), (nw6, .inl (cI, 3, .inl nfa)), (nw7, .inl (cI, 3, .inl nfb))] := hD
      have c23_0 := hw_23
      have c23_0 : 0 ≤ v23_0.toInt ∧ v23_0.toInt ≤ 16 := c23_0
      refine lv_imul hx hb dX1_gives_230 ?_
      refine lv_topi (fun x_24 ex_24 => ?_)
      clear ex_24
      exact wr_i (v := x_24) hx hb hr hlocks hS (v23_0, v23_1) (by exact show 0 ≤ (v23_0 : Int32).toInt ∧ (v23_0 : Int32).toInt ≤ 16 from by omega) (hP.sub [0, 1, 2, 3, 4, 5, 6, 7, 8, 9, 10] rfl) (hD.sub [0, 1, 2, 3, 4, 5, 6, 7, 8, 9, 10] (by decide) rfl) dX1_gives_231
set_option maxHeartbeats 4000000 in
set_option maxRecDepth 100000 in
theorem g_X1_asked_3 (l : Launch) (D : va_G) (cI cB cQ : ClassId) (z : ZT) (sz : Nat) (h : Nat) (nw : Nat) (bo : Nat) (nw0 : Nat) (nw1 : Nat) (nw2 : Nat) (nw3 : Nat) (nw4 : Nat) (nw5 : Nat) (nw6 : Nat) (nw7 : Nat) (tc : Int32) (nvi : Int32) (nro : Int32) (nwa : Int32) (nlz : Int32) (nds : Int32) (ndy : Int32) (nga : Int32) (npa : Int32) (w : Int32) (k : Int32) (bf : Nat → Int32) (nfw : Nat → Int32) (nfo : Nat → Int32) (nfr : Nat → Int32) (nfn : Nat → Int32) (nft : Nat → Int32) (nfk : Nat → Int32) (nfa : Nat → Int32) (nfb : Nat → Int32) (nha : ∀ j, j < 3 → 0 ≤ (nfa j).toInt ∧ (nfa j).toInt ≤ 7) (h_tc : 0 ≤ tc.toInt ∧ tc.toInt ≤ 16) (h_nvi : 0 ≤ nvi.toInt ∧ nvi.toInt ≤ 8) (h_nwa : 0 ≤ nwa.toInt ∧ nwa.toInt ≤ 3) (h_w : 0 ≤ w.toInt ∧ w.toInt ≤ 2) : miz l yX1_asked wsX1_asked ({ frames := 15, cells := 0, slots := 0, locals := 348 }) z D cI cB cQ [.ref h, .int w, .int k, .int 3] sz [(h, .inr (1, [.ref nw, .ref bo, .int tc])), (bo, .inl (cI, 16, .inl bf)), (nw, .inr (3, [.int nvi, .int nro, .int nwa, .int nlz, .int nds, .int ndy, .int nga, .int npa, .ref nw0, .ref nw1, .ref nw2, .ref nw3, .ref nw4, .ref nw5, .ref nw6, .ref nw7])), (nw0, .inl (cI, 8, .inl nfw)), (nw1, .inl (cI, 8, .inl nfo)), (nw2, .inl (cI, 8, .inl nfr)), (nw3, .inl (cI, 8, .inl nfn)), (nw4, .inl (cI, 8, .inl nft)), (nw5, .inl (cI, 3, .inl nfk)), (nw6, .inl (cI, 3, .inl nfa)), (nw7, .inl (cI, 3, .inl nfb))] (fun (r : Int32) (u : Int32 × (Nat → Int32)) => (0 ≤ u.1.toInt ∧ u.1.toInt ≤ 16)) (fun u => [(h, .inr (1, [.ref nw, .ref bo, .int u.1])), (bo, .inl (cI, 16, .inl u.2)), (nw, .inr (3, [.int nvi, .int nro, .int nwa, .int nlz, .int nds, .int ndy, .int nga, .int npa, .ref nw0, .ref nw1, .ref nw2, .ref nw3, .ref nw4, .ref nw5, .ref nw6, .ref nw7])), (nw0, .inl (cI, 8, .inl nfw)), (nw1, .inl (cI, 8, .inl nfo)), (nw2, .inl (cI, 8, .inl nfr)), (nw3, .inl (cI, 8, .inl nfn)), (nw4, .inl (cI, 8, .inl nft)), (nw5, .inl (cI, 3, .inl nfk)), (nw6, .inl (cI, 3, .inl nfa)), (nw7, .inl (cI, 3, .inl nfb))]) 0 0 := by
  refine wm_z (cc := cX1_asked) (maxL := 4) (ret := (some .int)) (by decide) rfl (Nat.le_of_ble_eq_true rfl) ?_
  intro p e s m below meth c A ls hZ hAb hx hb hr hml hown hts hlocks hin hP hK hD hN hA hl hS
  have hown : s.vm.findClass RX1 = some m.cls := hown
  have hl : lv_has ls 4 [(0, .ref h), (1, .int w), (2, .int k), (3, .int 3)] := hl
  change W p l e ({ frames := 15, cells := 0, slots := 0, locals := 348 }) s m ([.ref h, .int w, .int k, .int 3] : List Value).toArray below meth c s.heap [] 0 0 (MQ below (va_Qi (fun (r : Int32) (u : Int32 × (Nat → Int32)) => (0 ≤ u.1.toInt ∧ u.1.toInt ≤ 16)) (fun u t => wb D A ((fun u => [(h, .inr (1, [.ref nw, .ref bo, .int u.1])), (bo, .inl (cI, 16, .inl u.2)), (nw, .inr (3, [.int nvi, .int nro, .int nwa, .int nlz, .int nds, .int ndy, .int nga, .int npa, .ref nw0, .ref nw1, .ref nw2, .ref nw3, .ref nw4, .ref nw5, .ref nw6, .ref nw7])), (nw0, .inl (cI, 8, .inl nfw)), (nw1, .inl (cI, 8, .inl nfo)), (nw2, .inl (cI, 8, .inl nfr)), (nw3, .inl (cI, 8, .inl nfn)), (nw4, .inl (cI, 8, .inl nft)), (nw5, .inl (cI, 3, .inl nfk)), (nw6, .inl (cI, 3, .inl nfa)), (nw7, .inl (cI, 3, .inl nfb))]) u) t) A) ([.ref h, .int w, .int k, .int 3] : List Value).toArray s 0 0 A) (F0 m 0 ls [])
  refine lv_aload_n hx hb dX1_asked_0 rfl (lv_at hl 0 rfl) ?_
  refine lv_aload_n hx hb dX1_asked_1 rfl (lv_at hl 0 rfl) ?_
  refine va_get (D := D) (ci := 1) (v := .ref nw) (C := RX1) (T := TX1) (N := 3) hx hb hts (fun _ h => List.mem_cons_of_mem _ (List.mem_append_left _ (List.mem_append_right _ h))) hown hK hP 0 rfl rfl 0 (by decide) (hts (.fieldLink RX1 19 "WinterWalk$Asks" "land" "LWinterWalk$Land;") (List.mem_of_getElem? (i := 1) rfl)) (fun _ h9 => h9) rfl dX1_asked_2 ?_
  refine va_get (D := D) (ci := 3) (v := .ref nw5) (C := RX4) (T := TX4) (N := 16) hx hb hts (fun _ h => List.mem_cons_of_mem _ (List.mem_append_right _ h)) hown hK hP 2 rfl rfl 13 (by decide) (hts (.fieldLink RX1 27 "WinterWalk$Land" "kinds" "[I") (List.mem_of_getElem? (i := 2) rfl)) (fun _ h9 => h9) rfl dX1_asked_5 ?_
  refine lv_iload_n hx hb dX1_asked_8 rfl (lv_at hl 1 rfl) ?_
  refine va_iald hx hb hK hP 8 0 rfl rfl (zi_in (by omega) (by omega)) dX1_asked_9 ?_
  refine lv_topi (fun x_1 ex_1 => ?_)
  clear ex_1
  refine lv_iload_n hx hb dX1_asked_10 rfl (lv_at hl 2 rfl) ?_
  have k_2 := (g_X1_bodyFor l D cI cB cQ z s.heap.size x_1 k)
  refine wc_i (WC := []) (WR := [(h, .inr (1, [.ref nw, .ref bo, .int tc])), (bo, .inl (cI, 16, .inl bf)), (nw, .inr (3, [.int nvi, .int nro, .int nwa, .int nlz, .int nds, .int ndy, .int nga, .int npa, .ref nw0, .ref nw1, .ref nw2, .ref nw3, .ref nw4, .ref nw5, .ref nw6, .ref nw7])), (nw0, .inl (cI, 8, .inl nfw)), (nw1, .inl (cI, 8, .inl nfo)), (nw2, .inl (cI, 8, .inl nfr)), (nw3, .inl (cI, 8, .inl nfn)), (nw4, .inl (cI, 8, .inl nft)), (nw5, .inl (cI, 3, .inl nfk)), (nw6, .inl (cI, 3, .inl nfa)), (nw7, .inl (cI, 3, .inl nfb))]) (va_runS (As := [.int x_1, .int k]) (rest := [.ref h]) ⟨hx, hb, hml, hown, hts⟩ k_2 (va_cwS 2 hts gX1_asked_X1_bodyFor rfl rfl rfl (by decide +kernel) ⟨Nat.le_of_ble_eq_true rfl, Nat.le_of_ble_eq_true rfl⟩) (wpz_S hZ hS hAb hP hK hD hN [] (by decide) rfl) rfl rfl hl.1 rfl (lv_room (Nat.le_of_ble_eq_true rfl)) dX1_asked_11 ⟨Nat.le_of_ble_eq_true rfl, Nat.le_of_ble_eq_true rfl⟩) hP hD hS hA [] [0, 1, 2, 3, 4, 5, 6, 7, 8, 9, 10] rfl rfl (by decide) (by decide) (fun r_2 u_2 H locs hw_2 hP hD hS => ?_)
  clear k_2
  have hP : va_P D kl [(h, .inr (1, [.ref nw, .ref bo, .int tc])), (bo, .inl (cI, 16, .inl bf)), (nw, .inr (3, [.int nvi, .int nro, .int nwa, .int nlz, .int nds, .int ndy, .int nga, .int npa, .ref nw0, .ref nw1, .ref nw2, .ref nw3, .ref nw4, .ref nw5, .ref nw6, .ref nw7])), (nw0, .inl (cI, 8, .inl nfw)), (nw1, .inl (cI, 8, .inl nfo)), (nw2, .inl (cI, 8, .inl nfr)), (nw3, .inl (cI, 8, .inl nfn)), (nw4, .inl (cI, 8, .inl nft)), (nw5, .inl (cI, 3, .inl nfk)), (nw6, .inl (cI, 3, .inl nfa)), (nw7, .inl (cI, 3, .inl nfb))] H := hP
  have hD : va_D A [(h, .inr (1, [.ref nw, .ref bo, .int tc])), (bo, .inl (cI, 16, .inl bf)), (nw, .inr (3, [.int nvi, .int nro, .int nwa, .int nlz, .int nds, .int ndy, .int nga, .int npa, .ref nw0, .ref nw1, .ref nw2, .ref nw3, .ref nw4, .ref nw5, .ref nw6, .ref nw7])), (nw0, .inl (cI, 8, .inl nfw)), (nw1, .inl (cI, 8, .inl nfo)), (nw2, .inl (cI, 8, .inl nfr)), (nw3, .inl (cI, 8, .inl nfn)), (nw4, .inl (cI, 8, .inl nft)), (nw5, .inl (cI, 3, .inl nfk)), (nw6, .inl (cI, 3, .inl nfa)), (nw7, .inl (cI, 3, .inl nfb))] := hD
  clear hw_2
  refine lv_iload_n hx hb dX1_asked_14 rfl (lv_at hl 1 rfl) ?_
  refine lv_iload_n hx hb dX1_asked_15 rfl (lv_at hl 3 rfl) ?_
  have k_3 := (g_X1_gives_3 l D cI cB cQ z H.size h nw bo nw0 nw1 nw2 nw3 nw4 nw5 nw6 nw7 tc nvi nro nwa nlz nds ndy nga npa r_2 w bf nfw nfo nfr nfn nft nfk nfa nfb nha (by omega) (by omega) (by omega) (by omega))
  refine wc_i (WC := [(h, .inr (1, [.ref nw, .ref bo, .int tc])), (bo, .inl (cI, 16, .inl bf)), (nw, .inr (3, [.int nvi, .int nro, .int nwa, .int nlz, .int nds, .int ndy, .int nga, .int npa, .ref nw0, .ref nw1, .ref nw2, .ref nw3, .ref nw4, .ref nw5, .ref nw6, .ref nw7])), (nw0, .inl (cI, 8, .inl nfw)), (nw1, .inl (cI, 8, .inl nfo)), (nw2, .inl (cI, 8, .inl nfr)), (nw3, .inl (cI, 8, .inl nfn)), (nw4, .inl (cI, 8, .inl nft)), (nw5, .inl (cI, 3, .inl nfk)), (nw6, .inl (cI, 3, .inl nfa)), (nw7, .inl (cI, 3, .inl nfb))]) (WR := []) (va_runV (As := [.int r_2, .int w, .int 3]) (rest := []) ⟨hx, hb, hml, hown, hts⟩ k_3 (cwV 3 hts gX1_asked_X1_gives rfl rfl rfl (by decide +kernel) ⟨Nat.le_of_ble_eq_true rfl, Nat.le_of_ble_eq_true rfl⟩) (wpz_V hZ hS hAb hP hK hD hN [0, 1, 2, 3, 4, 5, 6, 7, 8, 9, 10] (by decide) rfl (ci := 1) rfl rfl) rfl rfl hl.1 rfl (lv_room (Nat.le_of_ble_eq_true rfl)) dX1_asked_16 ⟨Nat.le_of_ble_eq_true rfl, Nat.le_of_ble_eq_true rfl⟩) hP hD hS hA [0, 1, 2, 3, 4, 5, 6, 7, 8, 9, 10] [] rfl rfl (by decide) (by decide) (fun r_3 u_3 H locs hw_3 hP hD hS => ?_)
  clear k_3
  obtain ⟨v3_0, v3_1⟩ := u_3
  have hP : va_P D kl [(h, .inr (1, [.ref nw, .ref bo, .int v3_0])), (bo, .inl (cI, 16, .inl v3_1)), (nw, .inr (3, [.int nvi, .int nro, .int nwa, .int nlz, .int nds, .int ndy, .int nga, .int npa, .ref nw0, .ref nw1, .ref nw2, .ref nw3, .ref nw4, .ref nw5, .ref nw6, .ref nw7])), (nw0, .inl (cI, 8, .inl nfw)), (nw1, .inl (cI, 8, .inl nfo)), (nw2, .inl (cI, 8, .inl nfr)), (nw3, .inl (cI, 8, .inl nfn)), (nw4, .inl (cI, 8, .inl nft)), (nw5, .inl (cI, 3, .inl nfk)), (nw6, .inl (cI, 3, .inl nfa)), (nw7, .inl (cI, 3, .inl nfb))] H := hP
  have hD : va_D A [(h, .inr (1, [.ref nw, .ref bo, .int v3_0])), (bo, .inl (cI, 16, .inl v3_1)), (nw, .inr (3, [.int nvi, .int nro, .int nwa, .int nlz, .int nds, .int ndy, .int nga, .int npa, .ref nw0, .ref nw1, .ref nw2, .ref nw3, .ref nw4, .ref nw5, .ref nw6, .ref nw7])), (nw0, .inl (cI, 8, .inl nfw)), (nw1, .inl (cI, 8, .inl nfo)), (nw2, .inl (cI, 8, .inl nfr)), (nw3, .inl (cI, 8, .inl nfn)), (nw4, .inl (cI, 8, .inl nft)), (nw5, .inl (cI, 3, .inl nfk)), (nw6, .inl (cI, 3, .inl nfa)), (nw7, .inl (cI, 3, .inl nfb))] := hD
  have c3_0 := hw_3
  have c3_0 : 0 ≤ v3_0.toInt ∧ v3_0.toInt ≤ 16 := c3_0
  exact wr_i (v := r_3) hx hb hr hlocks hS (v3_0, v3_1) (by exact show 0 ≤ (v3_0 : Int32).toInt ∧ (v3_0 : Int32).toInt ≤ 16 from by omega) (hP.sub [0, 1, 2, 3, 4, 5, 6, 7, 8, 9, 10] rfl) (hD.sub [0, 1, 2, 3, 4, 5, 6, 7, 8, 9, 10] (by decide) rfl) dX1_asked_19
set_option maxHeartbeats 4000000 in
set_option maxRecDepth 100000 in
theorem g_X1_gives_2 (l : Launch) (D : va_G) (cI cB cQ : ClassId) (z : ZT) (sz : Nat) (h : Nat) (nw : Nat) (bo : Nat) (nw0 : Nat) (nw1 : Nat) (nw2 : Nat) (nw3 : Nat) (nw4 : Nat) (nw5 : Nat) (nw6 : Nat) (nw7 : Nat) (tc : Int32) (nvi : Int32) (nro : Int32) (nwa : Int32) (nlz : Int32) (nds : Int32) (ndy : Int32) (nga : Int32) (npa : Int32) (k : Int32) (w : Int32) (bf : Nat → Int32) (nfw : Nat → Int32) (nfo : Nat → Int32) (nfr : Nat → Int32) (nfn : Nat → Int32) (nft : Nat → Int32) (nfk : Nat → Int32) (nfa : Nat → Int32) (nfb : Nat → Int32) (nha : ∀ j, j < 3 → 0 ≤ (nfa j).toInt ∧ (nfa j).toInt ≤ 7) (h_tc : 0 ≤ tc.toInt ∧ tc.toInt ≤ 16) (h_nvi : 0 ≤ nvi.toInt ∧ nvi.toInt ≤ 8) (h_nwa : 0 ≤ nwa.toInt ∧ nwa.toInt ≤ 3) (h_w : 0 ≤ w.toInt ∧ w.toInt ≤ 2) : miz l yX1_gives wsX1_gives ({ frames := 16, cells := 0, slots := 0, locals := 371 }) z D cI cB cQ [.ref h, .int k, .int w, .int 2] sz [(h, .inr (1, [.ref nw, .ref bo, .int tc])), (bo, .inl (cI, 16, .inl bf)), (nw, .inr (3, [.int nvi, .int nro, .int nwa, .int nlz, .int nds, .int ndy, .int nga, .int npa, .ref nw0, .ref nw1, .ref nw2, .ref nw3, .ref nw4, .ref nw5, .ref nw6, .ref nw7])), (nw0, .inl (cI, 8, .inl nfw)), (nw1, .inl (cI, 8, .inl nfo)), (nw2, .inl (cI, 8, .inl nfr)), (nw3, .inl (cI, 8, .inl nfn)), (nw4, .inl (cI, 8, .inl nft)), (nw5, .inl (cI, 3, .inl nfk)), (nw6, .inl (cI, 3, .inl nfa)), (nw7, .inl (cI, 3, .inl nfb))] (fun (r : Int32) (u : Int32 × (Nat → Int32)) => (0 ≤ u.1.toInt ∧ u.1.toInt ≤ 16)) (fun u => [(h, .inr (1, [.ref nw, .ref bo, .int u.1])), (bo, .inl (cI, 16, .inl u.2)), (nw, .inr (3, [.int nvi, .int nro, .int nwa, .int nlz, .int nds, .int ndy, .int nga, .int npa, .ref nw0, .ref nw1, .ref nw2, .ref nw3, .ref nw4, .ref nw5, .ref nw6, .ref nw7])), (nw0, .inl (cI, 8, .inl nfw)), (nw1, .inl (cI, 8, .inl nfo)), (nw2, .inl (cI, 8, .inl nfr)), (nw3, .inl (cI, 8, .inl nfn)), (nw4, .inl (cI, 8, .inl nft)), (nw5, .inl (cI, 3, .inl nfk)), (nw6, .inl (cI, 3, .inl nfa)), (nw7, .inl (cI, 3, .inl nfb))]) 0 0 := by
  refine wm_z (cc := cX1_gives) (maxL := 5) (ret := (some .int)) (by decide) rfl (Nat.le_of_ble_eq_true rfl) ?_
  intro p e s m below meth c A ls hZ hAb hx hb hr hml hown hts hlocks hin hP hK hD hN hA hl hS
  have hown : s.vm.findClass RX1 = some m.cls := hown
  have hl : lv_has ls 5 [(0, .ref h), (1, .int k), (2, .int w), (3, .int 2)] := hl
  change W p l e ({ frames := 16, cells := 0, slots := 0, locals := 371 }) s m ([.ref h, .int k, .int w, .int 2] : List Value).toArray below meth c s.heap [] 0 0 (MQ below (va_Qi (fun (r : Int32) (u : Int32 × (Nat → Int32)) => (0 ≤ u.1.toInt ∧ u.1.toInt ≤ 16)) (fun u t => wb D A ((fun u => [(h, .inr (1, [.ref nw, .ref bo, .int u.1])), (bo, .inl (cI, 16, .inl u.2)), (nw, .inr (3, [.int nvi, .int nro, .int nwa, .int nlz, .int nds, .int ndy, .int nga, .int npa, .ref nw0, .ref nw1, .ref nw2, .ref nw3, .ref nw4, .ref nw5, .ref nw6, .ref nw7])), (nw0, .inl (cI, 8, .inl nfw)), (nw1, .inl (cI, 8, .inl nfo)), (nw2, .inl (cI, 8, .inl nfr)), (nw3, .inl (cI, 8, .inl nfn)), (nw4, .inl (cI, 8, .inl nft)), (nw5, .inl (cI, 3, .inl nfk)), (nw6, .inl (cI, 3, .inl nfa)), (nw7, .inl (cI, 3, .inl nfb))]) u) t) A) ([.ref h, .int k, .int w, .int 2] : List Value).toArray s 0 0 A) (F0 m 0 ls [])
  refine lv_iload_n hx hb dX1_gives_0 rfl (lv_at hl 3 rfl) ?_
  refine lv_bipush (v := 8) hx hb dX1_gives_1 (by decide) ?_
  refine lv_icmp_le (tgt := 8) hx hb dX1_gives_3 (by decide) (fun _ => ?_) (fun c9 => absurd (by decide) c9)
  refine lv_aload_n hx hb dX1_gives_8 rfl (lv_at hl 0 rfl) ?_
  refine lv_iload_n hx hb dX1_gives_9 rfl (lv_at hl 1 rfl) ?_
  have k_1 := (g_X1_leaveTrace l D cI cB cQ s.heap.size h nw bo tc k bf (by omega))
  refine wc_v (WC := [(h, .inr (1, [.ref nw, .ref bo, .int tc])), (bo, .inl (cI, 16, .inl bf))]) (WR := [(nw, .inr (3, [.int nvi, .int nro, .int nwa, .int nlz, .int nds, .int ndy, .int nga, .int npa, .ref nw0, .ref nw1, .ref nw2, .ref nw3, .ref nw4, .ref nw5, .ref nw6, .ref nw7])), (nw0, .inl (cI, 8, .inl nfw)), (nw1, .inl (cI, 8, .inl nfo)), (nw2, .inl (cI, 8, .inl nfr)), (nw3, .inl (cI, 8, .inl nfn)), (nw4, .inl (cI, 8, .inl nft)), (nw5, .inl (cI, 3, .inl nfk)), (nw6, .inl (cI, 3, .inl nfa)), (nw7, .inl (cI, 3, .inl nfb))]) (va_runV (As := [.int k]) (rest := []) ⟨hx, hb, hml, hown, hts⟩ k_1 (cwV 1 hts gX1_gives_X1_leaveTrace rfl rfl rfl (by decide +kernel) ⟨Nat.le_of_ble_eq_true rfl, Nat.le_of_ble_eq_true rfl⟩) (wp_V hP hK hD hN [0, 1] (by decide) rfl (ci := 1) rfl rfl) rfl rfl hl.1 rfl (lv_room (Nat.le_of_ble_eq_true rfl)) dX1_gives_10 ⟨Nat.le_of_ble_eq_true rfl, Nat.le_of_ble_eq_true rfl⟩) hP hD hS hA [0, 1] [2, 3, 4, 5, 6, 7, 8, 9, 10] rfl rfl (by decide) (by decide) (fun u_1 H locs hw_1 hP hD hS => ?_)
  clear k_1
  obtain ⟨v1_0, v1_1⟩ := u_1
  have hP : va_P D kl [(nw, .inr (3, [.int nvi, .int nro, .int nwa, .int nlz, .int nds, .int ndy, .int nga, .int npa, .ref nw0, .ref nw1, .ref nw2, .ref nw3, .ref nw4, .ref nw5, .ref nw6, .ref nw7])), (nw0, .inl (cI, 8, .inl nfw)), (nw1, .inl (cI, 8, .inl nfo)), (nw2, .inl (cI, 8, .inl nfr)), (nw3, .inl (cI, 8, .inl nfn)), (nw4, .inl (cI, 8, .inl nft)), (nw5, .inl (cI, 3, .inl nfk)), (nw6, .inl (cI, 3, .inl nfa)), (nw7, .inl (cI, 3, .inl nfb)), (h, .inr (1, [.ref nw, .ref bo, .int v1_0])), (bo, .inl (cI, 16, .inl v1_1))] H := hP
  have hD : va_D A [(nw, .inr (3, [.int nvi, .int nro, .int nwa, .int nlz, .int nds, .int ndy, .int nga, .int npa, .ref nw0, .ref nw1, .ref nw2, .ref nw3, .ref nw4, .ref nw5, .ref nw6, .ref nw7])), (nw0, .inl (cI, 8, .inl nfw)), (nw1, .inl (cI, 8, .inl nfo)), (nw2, .inl (cI, 8, .inl nfr)), (nw3, .inl (cI, 8, .inl nfn)), (nw4, .inl (cI, 8, .inl nft)), (nw5, .inl (cI, 3, .inl nfk)), (nw6, .inl (cI, 3, .inl nfa)), (nw7, .inl (cI, 3, .inl nfb)), (h, .inr (1, [.ref nw, .ref bo, .int v1_0])), (bo, .inl (cI, 16, .inl v1_1))] := hD
  have c1_0 := hw_1
  have c1_0 : 0 ≤ v1_0.toInt ∧ v1_0.toInt ≤ 16 := c1_0
  refine lv_iload_n hx hb dX1_gives_13 rfl (lv_at hl 3 rfl) ?_
  refine lv_iconst (v := 1) hx hb dX1_gives_14 (by decide) ?_
  refine lv_iadd hx hb dX1_gives_15 ?_
  refine lv_topi (fun x_2 ex_2 => ?_)
  obtain rfl : x_2 = 3 := ex_2.trans (by decide)
  refine lv_istore (lv' := [(4, .int 3), (0, .ref h), (1, .int k), (2, .int w), (3, .int 2)]) hx hb dX1_gives_16 hl (by decide) rfl (fun ls hl => ?_)
  refine lv_iload_n hx hb dX1_gives_18 rfl (lv_at hl 2 rfl) ?_
  by_cases f_3 : k.toInt < 10 ∨ 24 < k.toInt
  · refine lv_tableOut (tgt := 232) hx hb dX1_gives_19 f_3 (by decide) ?_
    refine lv_iconst (v := 0) hx hb dX1_gives_232 (by decide) ?_
    exact wr_i (v := 0) hx hb hr hlocks hS (v1_0, v1_1) (by exact show 0 ≤ (v1_0 : Int32).toInt ∧ (v1_0 : Int32).toInt ≤ 16 from by omega) (hP.sub [9, 10, 0, 1, 2, 3, 4, 5, 6, 7, 8] rfl) (hD.sub [9, 10, 0, 1, 2, 3, 4, 5, 6, 7, 8] (by decide) rfl) dX1_gives_233
  · rcases (show k.toInt = 10 ∨ k.toInt = 11 ∨ k.toInt = 12 ∨ k.toInt = 13 ∨ k.toInt = 14 ∨ k.toInt = 15 ∨ k.toInt = 16 ∨ k.toInt = 17 ∨ k.toInt = 18 ∨ k.toInt = 19 ∨ k.toInt = 20 ∨ k.toInt = 21 ∨ k.toInt = 22 ∨ k.toInt = 23 ∨ k.toInt = 24 by omega) with g_3 | g_3 | g_3 | g_3 | g_3 | g_3 | g_3 | g_3 | g_3 | g_3 | g_3 | g_3 | g_3 | g_3 | g_3
    · refine lv_tableIn (off := 73) (tgt := 92) hx hb dX1_gives_19 (by omega) (by omega) (by rw [g_3]; rfl) (by decide) ?_
      refine lv_aload_n hx hb dX1_gives_92 rfl (lv_at hl 1 rfl) ?_
      refine va_get (D := D) (ci := 1) (v := .ref nw) (C := RX1) (T := TX1) (N := 3) hx hb hts (fun _ h => List.mem_cons_of_mem _ (List.mem_append_left _ (List.mem_append_right _ h))) hown hK hP 9 rfl rfl 0 (by decide) (hts (.fieldLink RX1 19 "WinterWalk$Asks" "land" "LWinterWalk$Land;") (List.mem_of_getElem? (i := 1) rfl)) (fun _ h9 => h9) rfl dX1_gives_93 ?_
      refine va_get (D := D) (ci := 3) (v := .ref nw6) (C := RX4) (T := TX4) (N := 16) hx hb hts (fun _ h => List.mem_cons_of_mem _ (List.mem_append_right _ h)) hown hK hP 0 rfl rfl 14 (by decide) (hts (.fieldLink RX1 59 "WinterWalk$Land" "at" "[I") (List.mem_of_getElem? (i := 2) rfl)) (fun _ h9 => h9) rfl dX1_gives_96 ?_
      refine lv_iload_n hx hb dX1_gives_99 rfl (lv_at hl 3 rfl) ?_
      refine va_iald hx hb hK hP 7 0 rfl rfl (zi_in (by omega) (by omega)) dX1_gives_100 ?_
      refine lv_topi (fun x_4 ex_4 => ?_)
      have f_4 : 0 ≤ x_4.toInt ∧ x_4.toInt ≤ 7 := by rw [ex_4]; exact nha _ (zi_cl (by omega) (by omega))
      clear ex_4
      exact wr_i (v := x_4) hx hb hr hlocks hS (v1_0, v1_1) (by exact show 0 ≤ (v1_0 : Int32).toInt ∧ (v1_0 : Int32).toInt ≤ 16 from by omega) (hP.sub [9, 10, 0, 1, 2, 3, 4, 5, 6, 7, 8] rfl) (hD.sub [9, 10, 0, 1, 2, 3, 4, 5, 6, 7, 8] (by decide) rfl) dX1_gives_101
    · refine lv_tableIn (off := 83) (tgt := 102) hx hb dX1_gives_19 (by omega) (by omega) (by rw [g_3]; rfl) (by decide) ?_
      refine lv_aload_n hx hb dX1_gives_102 rfl (lv_at hl 1 rfl) ?_
      refine lv_bipush (v := 10) hx hb dX1_gives_103 (by decide) ?_
      refine lv_iload_n hx hb dX1_gives_105 rfl (lv_at hl 3 rfl) ?_
      refine lv_iload hx hb dX1_gives_106 (lv_at hl 0 rfl) ?_
      have k_5 := (g_X1_gives_3 l D cI cB cQ z H.size h nw bo nw0 nw1 nw2 nw3 nw4 nw5 nw6 nw7 v1_0 nvi nro nwa nlz nds ndy nga npa 10 w v1_1 nfw nfo nfr nfn nft nfk nfa nfb nha (by omega) (by omega) (by omega) (by omega))
      refine wc_i (WC := [(h, .inr (1, [.ref nw, .ref bo, .int v1_0])), (bo, .inl (cI, 16, .inl v1_1)), (nw, .inr (3, [.int nvi, .int nro, .int nwa, .int nlz, .int nds, .int ndy, .int nga, .int npa, .ref nw0, .ref nw1, .ref nw2, .ref nw3, .ref nw4, .ref nw5, .ref nw6, .ref nw7])), (nw0, .inl (cI, 8, .inl nfw)), (nw1, .inl (cI, 8, .inl nfo)), (nw2, .inl (cI, 8, .inl nfr)), (nw3, .inl (cI, 8, .inl nfn)), (nw4, .inl (cI, 8, .inl nft)), (nw5, .inl (cI, 3, .inl nfk)), (nw6, .inl (cI, 3, .inl nfa)), (nw7, .inl (cI, 3, .inl nfb))]) (WR := []) (va_runV (As := [.int 10, .int w, .int 3]) (rest := []) ⟨hx, hb, hml, hown, hts⟩ k_5 (cwV 3 hts gX1_gives_X1_gives rfl rfl rfl (by decide +kernel) ⟨Nat.le_of_ble_eq_true rfl, Nat.le_of_ble_eq_true rfl⟩) (wpz_V hZ hS hAb hP hK hD hN [9, 10, 0, 1, 2, 3, 4, 5, 6, 7, 8] (by decide) rfl (ci := 1) rfl rfl) rfl rfl hl.1 rfl (lv_room (Nat.le_of_ble_eq_true rfl)) dX1_gives_108 ⟨Nat.le_of_ble_eq_true rfl, Nat.le_of_ble_eq_true rfl⟩) hP hD hS hA [9, 10, 0, 1, 2, 3, 4, 5, 6, 7, 8] [] rfl rfl (by decide) (by decide) (fun r_5 u_5 H locs hw_5 hP hD hS => ?_)
      clear k_5
      obtain ⟨v5_0, v5_1⟩ := u_5
      have hP : va_P D kl [(h, .inr (1, [.ref nw, .ref bo, .int v5_0])), (bo, .inl (cI, 16, .inl v5_1)), (nw, .inr (3, [.int nvi, .int nro, .int nwa, .int nlz, .int nds, .int ndy, .int nga, .int npa, .ref nw0, .ref nw1, .ref nw2, .ref nw3, .ref nw4, .ref nw5, .ref nw6, .ref nw7])), (nw0, .inl (cI, 8, .inl nfw)), (nw1, .inl (cI, 8, .inl nfo)), (nw2, .inl (cI, 8, .inl nfr)), (nw3, .inl (cI, 8, .inl nfn)), (nw4, .inl (cI, 8, .inl nft)), (nw5, .inl (cI, 3, .inl nfk)), (nw6, .inl (cI, 3, .inl nfa)), (nw7, .inl (cI, 3, .inl nfb))] H := hP
      have hD : va_D A [(h, .inr (1, [.ref nw, .ref bo, .int v5_0])), (bo, .inl (cI, 16, .inl v5_1)), (nw, .inr (3, [.int nvi, .int nro, .int nwa, .int nlz, .int nds, .int ndy, .int nga, .int npa, .ref nw0, .ref nw1, .ref nw2, .ref nw3, .ref nw4, .ref nw5, .ref nw6, .ref nw7])), (nw0, .inl (cI, 8, .inl nfw)), (nw1, .inl (cI, 8, .inl nfo)), (nw2, .inl (cI, 8, .inl nfr)), (nw3, .inl (cI, 8, .inl nfn)), (nw4, .inl (cI, 8, .inl nft)), (nw5, .inl (cI, 3, .inl nfk)), (nw6, .inl (cI, 3, .inl nfa)), (nw7, .inl (cI, 3, .inl nfb))] := hD
      have c5_0 := hw_5
      have c5_0 : 0 ≤ v5_0.toInt ∧ v5_0.toInt ≤ 16 := c5_0
      refine lv_aload_n hx hb dX1_gives_111 rfl (lv_at hl 1 rfl) ?_
      refine lv_iload_n hx hb dX1_gives_112 rfl (lv_at hl 3 rfl) ?_
      refine lv_iconst (v := 1) hx hb dX1_gives_113 (by decide) ?_
      refine lv_iload hx hb dX1_gives_114 (lv_at hl 0 rfl) ?_
      have k_6 := (g_X1_asked_3 l D cI cB cQ z H.size h nw bo nw0 nw1 nw2 nw3 nw4 nw5 nw6 nw7 v5_0 nvi nro nwa nlz nds ndy nga npa w 1 v5_1 nfw nfo nfr nfn nft nfk nfa nfb nha (by omega) (by omega) (by omega) (by omega))
      refine wc_i (WC := [(h, .inr (1, [.ref nw, .ref bo, .int v5_0])), (bo, .inl (cI, 16, .inl v5_1)), (nw, .inr (3, [.int nvi, .int nro, .int nwa, .int nlz, .int nds, .int ndy, .int nga, .int npa, .ref nw0, .ref nw1, .ref nw2, .ref nw3, .ref nw4, .ref nw5, .ref nw6, .ref nw7])), (nw0, .inl (cI, 8, .inl nfw)), (nw1, .inl (cI, 8, .inl nfo)), (nw2, .inl (cI, 8, .inl nfr)), (nw3, .inl (cI, 8, .inl nfn)), (nw4, .inl (cI, 8, .inl nft)), (nw5, .inl (cI, 3, .inl nfk)), (nw6, .inl (cI, 3, .inl nfa)), (nw7, .inl (cI, 3, .inl nfb))]) (WR := []) (va_runV (As := [.int w, .int 1, .int 3]) (rest := [.int r_5]) ⟨hx, hb, hml, hown, hts⟩ k_6 (cwV 3 hts gX1_gives_X1_asked rfl rfl rfl (by decide +kernel) ⟨Nat.le_of_ble_eq_true rfl, Nat.le_of_ble_eq_true rfl⟩) (wpz_V hZ hS hAb hP hK hD hN [0, 1, 2, 3, 4, 5, 6, 7, 8, 9, 10] (by decide) rfl (ci := 1) rfl rfl) rfl rfl hl.1 rfl (lv_room (Nat.le_of_ble_eq_true rfl)) dX1_gives_116 ⟨Nat.le_of_ble_eq_true rfl, Nat.le_of_ble_eq_true rfl⟩) hP hD hS hA [0, 1, 2, 3, 4, 5, 6, 7, 8, 9, 10] [] rfl rfl (by decide) (by decide) (fun r_6 u_6 H locs hw_6 hP hD hS => ?_)
      clear k_6
      obtain ⟨v6_0, v6_1⟩ := u_6
      have hP : va_P D kl [(h, .inr (1, [.ref nw, .ref bo, .int v6_0])), (bo, .inl (cI, 16, .inl v6_1)), (nw, .inr (3, [.int nvi, .int nro, .int nwa, .int nlz, .int nds, .int ndy, .int nga, .int npa, .ref nw0, .ref nw1, .ref nw2, .ref nw3, .ref nw4, .ref nw5, .ref nw6, .ref nw7])), (nw0, .inl (cI, 8, .inl nfw)), (nw1, .inl (cI, 8, .inl nfo)), (nw2, .inl (cI, 8, .inl nfr)), (nw3, .inl (cI, 8, .inl nfn)), (nw4, .inl (cI, 8, .inl nft)), (nw5, .inl (cI, 3, .inl nfk)), (nw6, .inl (cI, 3, .inl nfa)), (nw7, .inl (cI, 3, .inl nfb))] H := hP
      have hD : va_D A [(h, .inr (1, [.ref nw, .ref bo, .int v6_0])), (bo, .inl (cI, 16, .inl v6_1)), (nw, .inr (3, [.int nvi, .int nro, .int nwa, .int nlz, .int nds, .int ndy, .int nga, .int npa, .ref nw0, .ref nw1, .ref nw2, .ref nw3, .ref nw4, .ref nw5, .ref nw6, .ref nw7])), (nw0, .inl (cI, 8, .inl nfw)), (nw1, .inl (cI, 8, .inl nfo)), (nw2, .inl (cI, 8, .inl nfr)), (nw3, .inl (cI, 8, .inl nfn)), (nw4, .inl (cI, 8, .inl nft)), (nw5, .inl (cI, 3, .inl nfk)), (nw6, .inl (cI, 3, .inl nfa)), (nw7, .inl (cI, 3, .inl nfb))] := hD
      have c6_0 := hw_6
      have c6_0 : 0 ≤ v6_0.toInt ∧ v6_0.toInt ≤ 16 := c6_0
      refine lv_iadd hx hb dX1_gives_119 ?_
      refine lv_topi (fun x_7 ex_7 => ?_)
      clear ex_7
      exact wr_i (v := x_7) hx hb hr hlocks hS (v6_0, v6_1) (by exact show 0 ≤ (v6_0 : Int32).toInt ∧ (v6_0 : Int32).toInt ≤ 16 from by omega) (hP.sub [0, 1, 2, 3, 4, 5, 6, 7, 8, 9, 10] rfl) (hD.sub [0, 1, 2, 3, 4, 5, 6, 7, 8, 9, 10] (by decide) rfl) dX1_gives_120
    · refine lv_tableIn (off := 102) (tgt := 121) hx hb dX1_gives_19 (by omega) (by omega) (by rw [g_3]; rfl) (by decide) ?_
      refine lv_aload_n hx hb dX1_gives_121 rfl (lv_at hl 1 rfl) ?_
      refine lv_bipush (v := 11) hx hb dX1_gives_122 (by decide) ?_
      refine lv_iload_n hx hb dX1_gives_124 rfl (lv_at hl 3 rfl) ?_
      refine lv_iload hx hb dX1_gives_125 (lv_at hl 0 rfl) ?_
      have k_8 := (g_X1_gives_3 l D cI cB cQ z H.size h nw bo nw0 nw1 nw2 nw3 nw4 nw5 nw6 nw7 v1_0 nvi nro nwa nlz nds ndy nga npa 11 w v1_1 nfw nfo nfr nfn nft nfk nfa nfb nha (by omega) (by omega) (by omega) (by omega))
      refine wc_i (WC := [(h, .inr (1, [.ref nw, .ref bo, .int v1_0])), (bo, .inl (cI, 16, .inl v1_1)), (nw, .inr (3, [.int nvi, .int nro, .int nwa, .int nlz, .int nds, .int ndy, .int nga, .int npa, .ref nw0, .ref nw1, .ref nw2, .ref nw3, .ref nw4, .ref nw5, .ref nw6, .ref nw7])), (nw0, .inl (cI, 8, .inl nfw)), (nw1, .inl (cI, 8, .inl nfo)), (nw2, .inl (cI, 8, .inl nfr)), (nw3, .inl (cI, 8, .inl nfn)), (nw4, .inl (cI, 8, .inl nft)), (nw5, .inl (cI, 3, .inl nfk)), (nw6, .inl (cI, 3, .inl nfa)), (nw7, .inl (cI, 3, .inl nfb))]) (WR := []) (va_runV (As := [.int 11, .int w, .int 3]) (rest := []) ⟨hx, hb, hml, hown, hts⟩ k_8 (cwV 3 hts gX1_gives_X1_gives rfl rfl rfl (by decide +kernel) ⟨Nat.le_of_ble_eq_true rfl, Nat.le_of_ble_eq_true rfl⟩) (wpz_V hZ hS hAb hP hK hD hN [9, 10, 0, 1, 2, 3, 4, 5, 6, 7, 8] (by decide) rfl (ci := 1) rfl rfl) rfl rfl hl.1 rfl (lv_room (Nat.le_of_ble_eq_true rfl)) dX1_gives_127 ⟨Nat.le_of_ble_eq_true rfl, Nat.le_of_ble_eq_true rfl⟩) hP hD hS hA [9, 10, 0, 1, 2, 3, 4, 5, 6, 7, 8] [] rfl rfl (by decide) (by decide) (fun r_8 u_8 H locs hw_8 hP hD hS => ?_)
      clear k_8
      obtain ⟨v8_0, v8_1⟩ := u_8
      have hP : va_P D kl [(h, .inr (1, [.ref nw, .ref bo, .int v8_0])), (bo, .inl (cI, 16, .inl v8_1)), (nw, .inr (3, [.int nvi, .int nro, .int nwa, .int nlz, .int nds, .int ndy, .int nga, .int npa, .ref nw0, .ref nw1, .ref nw2, .ref nw3, .ref nw4, .ref nw5, .ref nw6, .ref nw7])), (nw0, .inl (cI, 8, .inl nfw)), (nw1, .inl (cI, 8, .inl nfo)), (nw2, .inl (cI, 8, .inl nfr)), (nw3, .inl (cI, 8, .inl nfn)), (nw4, .inl (cI, 8, .inl nft)), (nw5, .inl (cI, 3, .inl nfk)), (nw6, .inl (cI, 3, .inl nfa)), (nw7, .inl (cI, 3, .inl nfb))] H := hP
      have hD : va_D A [(h, .inr (1, [.ref nw, .ref bo, .int v8_0])), (bo, .inl (cI, 16, .inl v8_1)), (nw, .inr (3, [.int nvi, .int nro, .int nwa, .int nlz, .int nds, .int ndy, .int nga, .int npa, .ref nw0, .ref nw1, .ref nw2, .ref nw3, .ref nw4, .ref nw5, .ref nw6, .ref nw7])), (nw0, .inl (cI, 8, .inl nfw)), (nw1, .inl (cI, 8, .inl nfo)), (nw2, .inl (cI, 8, .inl nfr)), (nw3, .inl (cI, 8, .inl nfn)), (nw4, .inl (cI, 8, .inl nft)), (nw5, .inl (cI, 3, .inl nfk)), (nw6, .inl (cI, 3, .inl nfa)), (nw7, .inl (cI, 3, .inl nfb))] := hD
      have c8_0 := hw_8
      have c8_0 : 0 ≤ v8_0.toInt ∧ v8_0.toInt ≤ 16 := c8_0
      refine lv_ineg hx hb dX1_gives_130 ?_
      refine lv_topi (fun x_9 ex_9 => ?_)
      clear ex_9
      exact wr_i (v := x_9) hx hb hr hlocks hS (v8_0, v8_1) (by exact show 0 ≤ (v8_0 : Int32).toInt ∧ (v8_0 : Int32).toInt ≤ 16 from by omega) (hP.sub [0, 1, 2, 3, 4, 5, 6, 7, 8, 9, 10] rfl) (hD.sub [0, 1, 2, 3, 4, 5, 6, 7, 8, 9, 10] (by decide) rfl) dX1_gives_131
    · refine lv_tableIn (off := 113) (tgt := 132) hx hb dX1_gives_19 (by omega) (by omega) (by rw [g_3]; rfl) (by decide) ?_
      refine lv_aload_n hx hb dX1_gives_132 rfl (lv_at hl 1 rfl) ?_
      refine lv_bipush (v := 10) hx hb dX1_gives_133 (by decide) ?_
      refine lv_iload_n hx hb dX1_gives_135 rfl (lv_at hl 3 rfl) ?_
      refine lv_iload hx hb dX1_gives_136 (lv_at hl 0 rfl) ?_
      have k_10 := (g_X1_gives_3 l D cI cB cQ z H.size h nw bo nw0 nw1 nw2 nw3 nw4 nw5 nw6 nw7 v1_0 nvi nro nwa nlz nds ndy nga npa 10 w v1_1 nfw nfo nfr nfn nft nfk nfa nfb nha (by omega) (by omega) (by omega) (by omega))
      refine wc_i (WC := [(h, .inr (1, [.ref nw, .ref bo, .int v1_0])), (bo, .inl (cI, 16, .inl v1_1)), (nw, .inr (3, [.int nvi, .int nro, .int nwa, .int nlz, .int nds, .int ndy, .int nga, .int npa, .ref nw0, .ref nw1, .ref nw2, .ref nw3, .ref nw4, .ref nw5, .ref nw6, .ref nw7])), (nw0, .inl (cI, 8, .inl nfw)), (nw1, .inl (cI, 8, .inl nfo)), (nw2, .inl (cI, 8, .inl nfr)), (nw3, .inl (cI, 8, .inl nfn)), (nw4, .inl (cI, 8, .inl nft)), (nw5, .inl (cI, 3, .inl nfk)), (nw6, .inl (cI, 3, .inl nfa)), (nw7, .inl (cI, 3, .inl nfb))]) (WR := []) (va_runV (As := [.int 10, .int w, .int 3]) (rest := []) ⟨hx, hb, hml, hown, hts⟩ k_10 (cwV 3 hts gX1_gives_X1_gives rfl rfl rfl (by decide +kernel) ⟨Nat.le_of_ble_eq_true rfl, Nat.le_of_ble_eq_true rfl⟩) (wpz_V hZ hS hAb hP hK hD hN [9, 10, 0, 1, 2, 3, 4, 5, 6, 7, 8] (by decide) rfl (ci := 1) rfl rfl) rfl rfl hl.1 rfl (lv_room (Nat.le_of_ble_eq_true rfl)) dX1_gives_138 ⟨Nat.le_of_ble_eq_true rfl, Nat.le_of_ble_eq_true rfl⟩) hP hD hS hA [9, 10, 0, 1, 2, 3, 4, 5, 6, 7, 8] [] rfl rfl (by decide) (by decide) (fun r_10 u_10 H locs hw_10 hP hD hS => ?_)
      clear k_10
      obtain ⟨v10_0, v10_1⟩ := u_10
      have hP : va_P D kl [(h, .inr (1, [.ref nw, .ref bo, .int v10_0])), (bo, .inl (cI, 16, .inl v10_1)), (nw, .inr (3, [.int nvi, .int nro, .int nwa, .int nlz, .int nds, .int ndy, .int nga, .int npa, .ref nw0, .ref nw1, .ref nw2, .ref nw3, .ref nw4, .ref nw5, .ref nw6, .ref nw7])), (nw0, .inl (cI, 8, .inl nfw)), (nw1, .inl (cI, 8, .inl nfo)), (nw2, .inl (cI, 8, .inl nfr)), (nw3, .inl (cI, 8, .inl nfn)), (nw4, .inl (cI, 8, .inl nft)), (nw5, .inl (cI, 3, .inl nfk)), (nw6, .inl (cI, 3, .inl nfa)), (nw7, .inl (cI, 3, .inl nfb))] H := hP
      have hD : va_D A [(h, .inr (1, [.ref nw, .ref bo, .int v10_0])), (bo, .inl (cI, 16, .inl v10_1)), (nw, .inr (3, [.int nvi, .int nro, .int nwa, .int nlz, .int nds, .int ndy, .int nga, .int npa, .ref nw0, .ref nw1, .ref nw2, .ref nw3, .ref nw4, .ref nw5, .ref nw6, .ref nw7])), (nw0, .inl (cI, 8, .inl nfw)), (nw1, .inl (cI, 8, .inl nfo)), (nw2, .inl (cI, 8, .inl nfr)), (nw3, .inl (cI, 8, .inl nfn)), (nw4, .inl (cI, 8, .inl nft)), (nw5, .inl (cI, 3, .inl nfk)), (nw6, .inl (cI, 3, .inl nfa)), (nw7, .inl (cI, 3, .inl nfb))] := hD
      have c10_0 := hw_10
      have c10_0 : 0 ≤ v10_0.toInt ∧ v10_0.toInt ≤ 16 := c10_0
      refine lv_bipush (v := 100) hx hb dX1_gives_141 (by decide) ?_
      refine lv_isub hx hb dX1_gives_143 ?_
      refine lv_topi (fun x_11 ex_11 => ?_)
      clear ex_11
      exact wr_i (v := x_11) hx hb hr hlocks hS (v10_0, v10_1) (by exact show 0 ≤ (v10_0 : Int32).toInt ∧ (v10_0 : Int32).toInt ≤ 16 from by omega) (hP.sub [0, 1, 2, 3, 4, 5, 6, 7, 8, 9, 10] rfl) (hD.sub [0, 1, 2, 3, 4, 5, 6, 7, 8, 9, 10] (by decide) rfl) dX1_gives_144
    · refine lv_tableIn (off := 126) (tgt := 145) hx hb dX1_gives_19 (by omega) (by omega) (by rw [g_3]; rfl) (by decide) ?_
      refine lv_iconst (v := 2) hx hb dX1_gives_145 (by decide) ?_
      refine lv_aload_n hx hb dX1_gives_146 rfl (lv_at hl 1 rfl) ?_
      refine lv_bipush (v := 13) hx hb dX1_gives_147 (by decide) ?_
      refine lv_iload_n hx hb dX1_gives_149 rfl (lv_at hl 3 rfl) ?_
      refine lv_iload hx hb dX1_gives_150 (lv_at hl 0 rfl) ?_
      have k_12 := (g_X1_gives_3 l D cI cB cQ z H.size h nw bo nw0 nw1 nw2 nw3 nw4 nw5 nw6 nw7 v1_0 nvi nro nwa nlz nds ndy nga npa 13 w v1_1 nfw nfo nfr nfn nft nfk nfa nfb nha (by omega) (by omega) (by omega) (by omega))
      refine wc_i (WC := [(h, .inr (1, [.ref nw, .ref bo, .int v1_0])), (bo, .inl (cI, 16, .inl v1_1)), (nw, .inr (3, [.int nvi, .int nro, .int nwa, .int nlz, .int nds, .int ndy, .int nga, .int npa, .ref nw0, .ref nw1, .ref nw2, .ref nw3, .ref nw4, .ref nw5, .ref nw6, .ref nw7])), (nw0, .inl (cI, 8, .inl nfw)), (nw1, .inl (cI, 8, .inl nfo)), (nw2, .inl (cI, 8, .inl nfr)), (nw3, .inl (cI, 8, .inl nfn)), (nw4, .inl (cI, 8, .inl nft)), (nw5, .inl (cI, 3, .inl nfk)), (nw6, .inl (cI, 3, .inl nfa)), (nw7, .inl (cI, 3, .inl nfb))]) (WR := []) (va_runV (As := [.int 13, .int w, .int 3]) (rest := [.int 2]) ⟨hx, hb, hml, hown, hts⟩ k_12 (cwV 3 hts gX1_gives_X1_gives rfl rfl rfl (by decide +kernel) ⟨Nat.le_of_ble_eq_true rfl, Nat.le_of_ble_eq_true rfl⟩) (wpz_V hZ hS hAb hP hK hD hN [9, 10, 0, 1, 2, 3, 4, 5, 6, 7, 8] (by decide) rfl (ci := 1) rfl rfl) rfl rfl hl.1 rfl (lv_room (Nat.le_of_ble_eq_true rfl)) dX1_gives_152 ⟨Nat.le_of_ble_eq_true rfl, Nat.le_of_ble_eq_true rfl⟩) hP hD hS hA [9, 10, 0, 1, 2, 3, 4, 5, 6, 7, 8] [] rfl rfl (by decide) (by decide) (fun r_12 u_12 H locs hw_12 hP hD hS => ?_)
      clear k_12
      obtain ⟨v12_0, v12_1⟩ := u_12
      have hP : va_P D kl [(h, .inr (1, [.ref nw, .ref bo, .int v12_0])), (bo, .inl (cI, 16, .inl v12_1)), (nw, .inr (3, [.int nvi, .int nro, .int nwa, .int nlz, .int nds, .int ndy, .int nga, .int npa, .ref nw0, .ref nw1, .ref nw2, .ref nw3, .ref nw4, .ref nw5, .ref nw6, .ref nw7])), (nw0, .inl (cI, 8, .inl nfw)), (nw1, .inl (cI, 8, .inl nfo)), (nw2, .inl (cI, 8, .inl nfr)), (nw3, .inl (cI, 8, .inl nfn)), (nw4, .inl (cI, 8, .inl nft)), (nw5, .inl (cI, 3, .inl nfk)), (nw6, .inl (cI, 3, .inl nfa)), (nw7, .inl (cI, 3, .inl nfb))] H := hP
      have hD : va_D A [(h, .inr (1, [.ref nw, .ref bo, .int v12_0])), (bo, .inl (cI, 16, .inl v12_1)), (nw, .inr (3, [.int nvi, .int nro, .int nwa, .int nlz, .int nds, .int ndy, .int nga, .int npa, .ref nw0, .ref nw1, .ref nw2, .ref nw3, .ref nw4, .ref nw5, .ref nw6, .ref nw7])), (nw0, .inl (cI, 8, .inl nfw)), (nw1, .inl (cI, 8, .inl nfo)), (nw2, .inl (cI, 8, .inl nfr)), (nw3, .inl (cI, 8, .inl nfn)), (nw4, .inl (cI, 8, .inl nft)), (nw5, .inl (cI, 3, .inl nfk)), (nw6, .inl (cI, 3, .inl nfa)), (nw7, .inl (cI, 3, .inl nfb))] := hD
      have c12_0 := hw_12
      have c12_0 : 0 ≤ v12_0.toInt ∧ v12_0.toInt ≤ 16 := c12_0
      refine lv_imul hx hb dX1_gives_155 ?_
      refine lv_topi (fun x_13 ex_13 => ?_)
      clear ex_13
      exact wr_i (v := x_13) hx hb hr hlocks hS (v12_0, v12_1) (by exact show 0 ≤ (v12_0 : Int32).toInt ∧ (v12_0 : Int32).toInt ≤ 16 from by omega) (hP.sub [0, 1, 2, 3, 4, 5, 6, 7, 8, 9, 10] rfl) (hD.sub [0, 1, 2, 3, 4, 5, 6, 7, 8, 9, 10] (by decide) rfl) dX1_gives_156
    · refine lv_tableIn (off := 213) (tgt := 232) hx hb dX1_gives_19 (by omega) (by omega) (by rw [g_3]; rfl) (by decide) ?_
      refine lv_iconst (v := 0) hx hb dX1_gives_232 (by decide) ?_
      exact wr_i (v := 0) hx hb hr hlocks hS (v1_0, v1_1) (by exact show 0 ≤ (v1_0 : Int32).toInt ∧ (v1_0 : Int32).toInt ≤ 16 from by omega) (hP.sub [9, 10, 0, 1, 2, 3, 4, 5, 6, 7, 8] rfl) (hD.sub [9, 10, 0, 1, 2, 3, 4, 5, 6, 7, 8] (by decide) rfl) dX1_gives_233
    · refine lv_tableIn (off := 213) (tgt := 232) hx hb dX1_gives_19 (by omega) (by omega) (by rw [g_3]; rfl) (by decide) ?_
      refine lv_iconst (v := 0) hx hb dX1_gives_232 (by decide) ?_
      exact wr_i (v := 0) hx hb hr hlocks hS (v1_0, v1_1) (by exact show 0 ≤ (v1_0 : Int32).toInt ∧ (v1_0 : Int32).toInt ≤ 16 from by omega) (hP.sub [9, 10, 0, 1, 2, 3, 4, 5, 6, 7, 8] rfl) (hD.sub [9, 10, 0, 1, 2, 3, 4, 5, 6, 7, 8] (by decide) rfl) dX1_gives_233
    · refine lv_tableIn (off := 213) (tgt := 232) hx hb dX1_gives_19 (by omega) (by omega) (by rw [g_3]; rfl) (by decide) ?_
      refine lv_iconst (v := 0) hx hb dX1_gives_232 (by decide) ?_
      exact wr_i (v := 0) hx hb hr hlocks hS (v1_0, v1_1) (by exact show 0 ≤ (v1_0 : Int32).toInt ∧ (v1_0 : Int32).toInt ≤ 16 from by omega) (hP.sub [9, 10, 0, 1, 2, 3, 4, 5, 6, 7, 8] rfl) (hD.sub [9, 10, 0, 1, 2, 3, 4, 5, 6, 7, 8] (by decide) rfl) dX1_gives_233
    · refine lv_tableIn (off := 213) (tgt := 232) hx hb dX1_gives_19 (by omega) (by omega) (by rw [g_3]; rfl) (by decide) ?_
      refine lv_iconst (v := 0) hx hb dX1_gives_232 (by decide) ?_
      exact wr_i (v := 0) hx hb hr hlocks hS (v1_0, v1_1) (by exact show 0 ≤ (v1_0 : Int32).toInt ∧ (v1_0 : Int32).toInt ≤ 16 from by omega) (hP.sub [9, 10, 0, 1, 2, 3, 4, 5, 6, 7, 8] rfl) (hD.sub [9, 10, 0, 1, 2, 3, 4, 5, 6, 7, 8] (by decide) rfl) dX1_gives_233
    · refine lv_tableIn (off := 213) (tgt := 232) hx hb dX1_gives_19 (by omega) (by omega) (by rw [g_3]; rfl) (by decide) ?_
      refine lv_iconst (v := 0) hx hb dX1_gives_232 (by decide) ?_
      exact wr_i (v := 0) hx hb hr hlocks hS (v1_0, v1_1) (by exact show 0 ≤ (v1_0 : Int32).toInt ∧ (v1_0 : Int32).toInt ≤ 16 from by omega) (hP.sub [9, 10, 0, 1, 2, 3, 4, 5, 6, 7, 8] rfl) (hD.sub [9, 10, 0, 1, 2, 3, 4, 5, 6, 7, 8] (by decide) rfl) dX1_gives_233
    · refine lv_tableIn (off := 138) (tgt := 157) hx hb dX1_gives_19 (by omega) (by omega) (by rw [g_3]; rfl) (by decide) ?_
      refine lv_iload_n hx hb dX1_gives_157 rfl (lv_at hl 3 rfl) ?_
      exact wr_i (v := w) hx hb hr hlocks hS (v1_0, v1_1) (by exact show 0 ≤ (v1_0 : Int32).toInt ∧ (v1_0 : Int32).toInt ≤ 16 from by omega) (hP.sub [9, 10, 0, 1, 2, 3, 4, 5, 6, 7, 8] rfl) (hD.sub [9, 10, 0, 1, 2, 3, 4, 5, 6, 7, 8] (by decide) rfl) dX1_gives_158
    · refine lv_tableIn (off := 140) (tgt := 159) hx hb dX1_gives_19 (by omega) (by omega) (by rw [g_3]; rfl) (by decide) ?_
      refine lv_aload_n hx hb dX1_gives_159 rfl (lv_at hl 1 rfl) ?_
      refine lv_bipush (v := 20) hx hb dX1_gives_160 (by decide) ?_
      refine lv_iload_n hx hb dX1_gives_162 rfl (lv_at hl 3 rfl) ?_
      refine lv_iload hx hb dX1_gives_163 (lv_at hl 0 rfl) ?_
      have k_14 := (g_X1_gives_3 l D cI cB cQ z H.size h nw bo nw0 nw1 nw2 nw3 nw4 nw5 nw6 nw7 v1_0 nvi nro nwa nlz nds ndy nga npa 20 w v1_1 nfw nfo nfr nfn nft nfk nfa nfb nha (by omega) (by omega) (by omega) (by omega))
      refine wc_i (WC := [(h, .inr (1, [.ref nw, .ref bo, .int v1_0])), (bo, .inl (cI, 16, .inl v1_1)), (nw, .inr (3, [.int nvi, .int nro, .int nwa, .int nlz, .int nds, .int ndy, .int nga, .int npa, .ref nw0, .ref nw1, .ref nw2, .ref nw3, .ref nw4, .ref nw5, .ref nw6, .ref nw7])), (nw0, .inl (cI, 8, .inl nfw)), (nw1, .inl (cI, 8, .inl nfo)), (nw2, .inl (cI, 8, .inl nfr)), (nw3, .inl (cI, 8, .inl nfn)), (nw4, .inl (cI, 8, .inl nft)), (nw5, .inl (cI, 3, .inl nfk)), (nw6, .inl (cI, 3, .inl nfa)), (nw7, .inl (cI, 3, .inl nfb))]) (WR := []) (va_runV (As := [.int 20, .int w, .int 3]) (rest := []) ⟨hx, hb, hml, hown, hts⟩ k_14 (cwV 3 hts gX1_gives_X1_gives rfl rfl rfl (by decide +kernel) ⟨Nat.le_of_ble_eq_true rfl, Nat.le_of_ble_eq_true rfl⟩) (wpz_V hZ hS hAb hP hK hD hN [9, 10, 0, 1, 2, 3, 4, 5, 6, 7, 8] (by decide) rfl (ci := 1) rfl rfl) rfl rfl hl.1 rfl (lv_room (Nat.le_of_ble_eq_true rfl)) dX1_gives_165 ⟨Nat.le_of_ble_eq_true rfl, Nat.le_of_ble_eq_true rfl⟩) hP hD hS hA [9, 10, 0, 1, 2, 3, 4, 5, 6, 7, 8] [] rfl rfl (by decide) (by decide) (fun r_14 u_14 H locs hw_14 hP hD hS => ?_)
      clear k_14
      obtain ⟨v14_0, v14_1⟩ := u_14
      have hP : va_P D kl [(h, .inr (1, [.ref nw, .ref bo, .int v14_0])), (bo, .inl (cI, 16, .inl v14_1)), (nw, .inr (3, [.int nvi, .int nro, .int nwa, .int nlz, .int nds, .int ndy, .int nga, .int npa, .ref nw0, .ref nw1, .ref nw2, .ref nw3, .ref nw4, .ref nw5, .ref nw6, .ref nw7])), (nw0, .inl (cI, 8, .inl nfw)), (nw1, .inl (cI, 8, .inl nfo)), (nw2, .inl (cI, 8, .inl nfr)), (nw3, .inl (cI, 8, .inl nfn)), (nw4, .inl (cI, 8, .inl nft)), (nw5, .inl (cI, 3, .inl nfk)), (nw6, .inl (cI, 3, .inl nfa)), (nw7, .inl (cI, 3, .inl nfb))] H := hP
      have hD : va_D A [(h, .inr (1, [.ref nw, .ref bo, .int v14_0])), (bo, .inl (cI, 16, .inl v14_1)), (nw, .inr (3, [.int nvi, .int nro, .int nwa, .int nlz, .int nds, .int ndy, .int nga, .int npa, .ref nw0, .ref nw1, .ref nw2, .ref nw3, .ref nw4, .ref nw5, .ref nw6, .ref nw7])), (nw0, .inl (cI, 8, .inl nfw)), (nw1, .inl (cI, 8, .inl nfo)), (nw2, .inl (cI, 8, .inl nfr)), (nw3, .inl (cI, 8, .inl nfn)), (nw4, .inl (cI, 8, .inl nft)), (nw5, .inl (cI, 3, .inl nfk)), (nw6, .inl (cI, 3, .inl nfa)), (nw7, .inl (cI, 3, .inl nfb))] := hD
      have c14_0 := hw_14
      have c14_0 : 0 ≤ v14_0.toInt ∧ v14_0.toInt ≤ 16 := c14_0
      refine lv_aload_n hx hb dX1_gives_168 rfl (lv_at hl 1 rfl) ?_
      refine va_get (D := D) (ci := 1) (v := .ref nw) (C := RX1) (T := TX1) (N := 3) hx hb hts (fun _ h => List.mem_cons_of_mem _ (List.mem_append_left _ (List.mem_append_right _ h))) hown hK hP 0 rfl rfl 0 (by decide) (hts (.fieldLink RX1 19 "WinterWalk$Asks" "land" "LWinterWalk$Land;") (List.mem_of_getElem? (i := 1) rfl)) (fun _ h9 => h9) rfl dX1_gives_169 ?_
      refine va_get (D := D) (ci := 3) (v := .ref nw1) (C := RX4) (T := TX4) (N := 16) hx hb hts (fun _ h => List.mem_cons_of_mem _ (List.mem_append_right _ h)) hown hK hP 2 rfl rfl 9 (by decide) (hts (.fieldLink RX1 62 "WinterWalk$Land" "offers" "[I") (List.mem_of_getElem? (i := 3) rfl)) (fun _ h9 => h9) rfl dX1_gives_172 ?_
      refine lv_aload_n hx hb dX1_gives_175 rfl (lv_at hl 1 rfl) ?_
      refine va_get (D := D) (ci := 1) (v := .ref nw) (C := RX1) (T := TX1) (N := 3) hx hb hts (fun _ h => List.mem_cons_of_mem _ (List.mem_append_left _ (List.mem_append_right _ h))) hown hK hP 0 rfl rfl 0 (by decide) (hts (.fieldLink RX1 19 "WinterWalk$Asks" "land" "LWinterWalk$Land;") (List.mem_of_getElem? (i := 1) rfl)) (fun _ h9 => h9) rfl dX1_gives_176 ?_
      refine va_get (D := D) (ci := 3) (v := .ref nw6) (C := RX4) (T := TX4) (N := 16) hx hb hts (fun _ h => List.mem_cons_of_mem _ (List.mem_append_right _ h)) hown hK hP 2 rfl rfl 14 (by decide) (hts (.fieldLink RX1 59 "WinterWalk$Land" "at" "[I") (List.mem_of_getElem? (i := 2) rfl)) (fun _ h9 => h9) rfl dX1_gives_179 ?_
      refine lv_iload_n hx hb dX1_gives_182 rfl (lv_at hl 3 rfl) ?_
      refine va_iald hx hb hK hP 9 0 rfl rfl (zi_in (by omega) (by omega)) dX1_gives_183 ?_
      refine lv_topi (fun x_15 ex_15 => ?_)
      have f_15 : 0 ≤ x_15.toInt ∧ x_15.toInt ≤ 7 := by rw [ex_15]; exact nha _ (zi_cl (by omega) (by omega))
      clear ex_15
      refine va_iald hx hb hK hP 4 0 rfl rfl (zi_in (by omega) (by omega)) dX1_gives_184 ?_
      refine lv_topi (fun x_16 ex_16 => ?_)
      clear ex_16
      refine lv_iadd hx hb dX1_gives_185 ?_
      refine lv_topi (fun x_17 ex_17 => ?_)
      clear ex_17
      exact wr_i (v := x_17) hx hb hr hlocks hS (v14_0, v14_1) (by exact show 0 ≤ (v14_0 : Int32).toInt ∧ (v14_0 : Int32).toInt ≤ 16 from by omega) (hP.sub [0, 1, 2, 3, 4, 5, 6, 7, 8, 9, 10] rfl) (hD.sub [0, 1, 2, 3, 4, 5, 6, 7, 8, 9, 10] (by decide) rfl) dX1_gives_186
    · refine lv_tableIn (off := 168) (tgt := 187) hx hb dX1_gives_19 (by omega) (by omega) (by rw [g_3]; rfl) (by decide) ?_
      refine lv_aload_n hx hb dX1_gives_187 rfl (lv_at hl 1 rfl) ?_
      refine lv_bipush (v := 21) hx hb dX1_gives_188 (by decide) ?_
      refine lv_iload_n hx hb dX1_gives_190 rfl (lv_at hl 3 rfl) ?_
      refine lv_iload hx hb dX1_gives_191 (lv_at hl 0 rfl) ?_
      have k_18 := (g_X1_gives_3 l D cI cB cQ z H.size h nw bo nw0 nw1 nw2 nw3 nw4 nw5 nw6 nw7 v1_0 nvi nro nwa nlz nds ndy nga npa 21 w v1_1 nfw nfo nfr nfn nft nfk nfa nfb nha (by omega) (by omega) (by omega) (by omega))
      refine wc_i (WC := [(h, .inr (1, [.ref nw, .ref bo, .int v1_0])), (bo, .inl (cI, 16, .inl v1_1)), (nw, .inr (3, [.int nvi, .int nro, .int nwa, .int nlz, .int nds, .int ndy, .int nga, .int npa, .ref nw0, .ref nw1, .ref nw2, .ref nw3, .ref nw4, .ref nw5, .ref nw6, .ref nw7])), (nw0, .inl (cI, 8, .inl nfw)), (nw1, .inl (cI, 8, .inl nfo)), (nw2, .inl (cI, 8, .inl nfr)), (nw3, .inl (cI, 8, .inl nfn)), (nw4, .inl (cI, 8, .inl nft)), (nw5, .inl (cI, 3, .inl nfk)), (nw6, .inl (cI, 3, .inl nfa)), (nw7, .inl (cI, 3, .inl nfb))]) (WR := []) (va_runV (As := [.int 21, .int w, .int 3]) (rest := []) ⟨hx, hb, hml, hown, hts⟩ k_18 (cwV 3 hts gX1_gives_X1_gives rfl rfl rfl (by decide +kernel) ⟨Nat.le_of_ble_eq_true rfl, Nat.le_of_ble_eq_true rfl⟩) (wpz_V hZ hS hAb hP hK hD hN [9, 10, 0, 1, 2, 3, 4, 5, 6, 7, 8] (by decide) rfl (ci := 1) rfl rfl) rfl rfl hl.1 rfl (lv_room (Nat.le_of_ble_eq_true rfl)) dX1_gives_193 ⟨Nat.le_of_ble_eq_true rfl, Nat.le_of_ble_eq_true rfl⟩) hP hD hS hA [9, 10, 0, 1, 2, 3, 4, 5, 6, 7, 8] [] rfl rfl (by decide) (by decide) (fun r_18 u_18 H locs hw_18 hP hD hS => ?_)
      clear k_18
      obtain ⟨v18_0, v18_1⟩ := u_18
      have hP : va_P D kl [(h, .inr (1, [.ref nw, .ref bo, .int v18_0])), (bo, .inl (cI, 16, .inl v18_1)), (nw, .inr (3, [.int nvi, .int nro, .int nwa, .int nlz, .int nds, .int ndy, .int nga, .int npa, .ref nw0, .ref nw1, .ref nw2, .ref nw3, .ref nw4, .ref nw5, .ref nw6, .ref nw7])), (nw0, .inl (cI, 8, .inl nfw)), (nw1, .inl (cI, 8, .inl nfo)), (nw2, .inl (cI, 8, .inl nfr)), (nw3, .inl (cI, 8, .inl nfn)), (nw4, .inl (cI, 8, .inl nft)), (nw5, .inl (cI, 3, .inl nfk)), (nw6, .inl (cI, 3, .inl nfa)), (nw7, .inl (cI, 3, .inl nfb))] H := hP
      have hD : va_D A [(h, .inr (1, [.ref nw, .ref bo, .int v18_0])), (bo, .inl (cI, 16, .inl v18_1)), (nw, .inr (3, [.int nvi, .int nro, .int nwa, .int nlz, .int nds, .int ndy, .int nga, .int npa, .ref nw0, .ref nw1, .ref nw2, .ref nw3, .ref nw4, .ref nw5, .ref nw6, .ref nw7])), (nw0, .inl (cI, 8, .inl nfw)), (nw1, .inl (cI, 8, .inl nfo)), (nw2, .inl (cI, 8, .inl nfr)), (nw3, .inl (cI, 8, .inl nfn)), (nw4, .inl (cI, 8, .inl nft)), (nw5, .inl (cI, 3, .inl nfk)), (nw6, .inl (cI, 3, .inl nfa)), (nw7, .inl (cI, 3, .inl nfb))] := hD
      have c18_0 := hw_18
      have c18_0 : 0 ≤ v18_0.toInt ∧ v18_0.toInt ≤ 16 := c18_0
      refine lv_sipush (v := 1000) hx hb dX1_gives_196 (by decide) ?_
      refine lv_isub hx hb dX1_gives_199 ?_
      refine lv_topi (fun x_19 ex_19 => ?_)
      clear ex_19
      exact wr_i (v := x_19) hx hb hr hlocks hS (v18_0, v18_1) (by exact show 0 ≤ (v18_0 : Int32).toInt ∧ (v18_0 : Int32).toInt ≤ 16 from by omega) (hP.sub [0, 1, 2, 3, 4, 5, 6, 7, 8, 9, 10] rfl) (hD.sub [0, 1, 2, 3, 4, 5, 6, 7, 8, 9, 10] (by decide) rfl) dX1_gives_200
    · refine lv_tableIn (off := 182) (tgt := 201) hx hb dX1_gives_19 (by omega) (by omega) (by rw [g_3]; rfl) (by decide) ?_
      refine lv_aload_n hx hb dX1_gives_201 rfl (lv_at hl 1 rfl) ?_
      refine lv_bipush (v := 20) hx hb dX1_gives_202 (by decide) ?_
      refine lv_iload_n hx hb dX1_gives_204 rfl (lv_at hl 3 rfl) ?_
      refine lv_iload hx hb dX1_gives_205 (lv_at hl 0 rfl) ?_
      have k_20 := (g_X1_gives_3 l D cI cB cQ z H.size h nw bo nw0 nw1 nw2 nw3 nw4 nw5 nw6 nw7 v1_0 nvi nro nwa nlz nds ndy nga npa 20 w v1_1 nfw nfo nfr nfn nft nfk nfa nfb nha (by omega) (by omega) (by omega) (by omega))
      refine wc_i (WC := [(h, .inr (1, [.ref nw, .ref bo, .int v1_0])), (bo, .inl (cI, 16, .inl v1_1)), (nw, .inr (3, [.int nvi, .int nro, .int nwa, .int nlz, .int nds, .int ndy, .int nga, .int npa, .ref nw0, .ref nw1, .ref nw2, .ref nw3, .ref nw4, .ref nw5, .ref nw6, .ref nw7])), (nw0, .inl (cI, 8, .inl nfw)), (nw1, .inl (cI, 8, .inl nfo)), (nw2, .inl (cI, 8, .inl nfr)), (nw3, .inl (cI, 8, .inl nfn)), (nw4, .inl (cI, 8, .inl nft)), (nw5, .inl (cI, 3, .inl nfk)), (nw6, .inl (cI, 3, .inl nfa)), (nw7, .inl (cI, 3, .inl nfb))]) (WR := []) (va_runV (As := [.int 20, .int w, .int 3]) (rest := []) ⟨hx, hb, hml, hown, hts⟩ k_20 (cwV 3 hts gX1_gives_X1_gives rfl rfl rfl (by decide +kernel) ⟨Nat.le_of_ble_eq_true rfl, Nat.le_of_ble_eq_true rfl⟩) (wpz_V hZ hS hAb hP hK hD hN [9, 10, 0, 1, 2, 3, 4, 5, 6, 7, 8] (by decide) rfl (ci := 1) rfl rfl) rfl rfl hl.1 rfl (lv_room (Nat.le_of_ble_eq_true rfl)) dX1_gives_207 ⟨Nat.le_of_ble_eq_true rfl, Nat.le_of_ble_eq_true rfl⟩) hP hD hS hA [9, 10, 0, 1, 2, 3, 4, 5, 6, 7, 8] [] rfl rfl (by decide) (by decide) (fun r_20 u_20 H locs hw_20 hP hD hS => ?_)
      clear k_20
      obtain ⟨v20_0, v20_1⟩ := u_20
      have hP : va_P D kl [(h, .inr (1, [.ref nw, .ref bo, .int v20_0])), (bo, .inl (cI, 16, .inl v20_1)), (nw, .inr (3, [.int nvi, .int nro, .int nwa, .int nlz, .int nds, .int ndy, .int nga, .int npa, .ref nw0, .ref nw1, .ref nw2, .ref nw3, .ref nw4, .ref nw5, .ref nw6, .ref nw7])), (nw0, .inl (cI, 8, .inl nfw)), (nw1, .inl (cI, 8, .inl nfo)), (nw2, .inl (cI, 8, .inl nfr)), (nw3, .inl (cI, 8, .inl nfn)), (nw4, .inl (cI, 8, .inl nft)), (nw5, .inl (cI, 3, .inl nfk)), (nw6, .inl (cI, 3, .inl nfa)), (nw7, .inl (cI, 3, .inl nfb))] H := hP
      have hD : va_D A [(h, .inr (1, [.ref nw, .ref bo, .int v20_0])), (bo, .inl (cI, 16, .inl v20_1)), (nw, .inr (3, [.int nvi, .int nro, .int nwa, .int nlz, .int nds, .int ndy, .int nga, .int npa, .ref nw0, .ref nw1, .ref nw2, .ref nw3, .ref nw4, .ref nw5, .ref nw6, .ref nw7])), (nw0, .inl (cI, 8, .inl nfw)), (nw1, .inl (cI, 8, .inl nfo)), (nw2, .inl (cI, 8, .inl nfr)), (nw3, .inl (cI, 8, .inl nfn)), (nw4, .inl (cI, 8, .inl nft)), (nw5, .inl (cI, 3, .inl nfk)), (nw6, .inl (cI, 3, .inl nfa)), (nw7, .inl (cI, 3, .inl nfb))] := hD
      have c20_0 := hw_20
      have c20_0 : 0 ≤ v20_0.toInt ∧ v20_0.toInt ≤ 16 := c20_0
      refine lv_aload_n hx hb dX1_gives_210 rfl (lv_at hl 1 rfl) ?_
      refine lv_iload_n hx hb dX1_gives_211 rfl (lv_at hl 3 rfl) ?_
      refine lv_iconst (v := 0) hx hb dX1_gives_212 (by decide) ?_
      refine lv_iload hx hb dX1_gives_213 (lv_at hl 0 rfl) ?_
      have k_21 := (g_X1_asked_3 l D cI cB cQ z H.size h nw bo nw0 nw1 nw2 nw3 nw4 nw5 nw6 nw7 v20_0 nvi nro nwa nlz nds ndy nga npa w 0 v20_1 nfw nfo nfr nfn nft nfk nfa nfb nha (by omega) (by omega) (by omega) (by omega))
      refine wc_i (WC := [(h, .inr (1, [.ref nw, .ref bo, .int v20_0])), (bo, .inl (cI, 16, .inl v20_1)), (nw, .inr (3, [.int nvi, .int nro, .int nwa, .int nlz, .int nds, .int ndy, .int nga, .int npa, .ref nw0, .ref nw1, .ref nw2, .ref nw3, .ref nw4, .ref nw5, .ref nw6, .ref nw7])), (nw0, .inl (cI, 8, .inl nfw)), (nw1, .inl (cI, 8, .inl nfo)), (nw2, .inl (cI, 8, .inl nfr)), (nw3, .inl (cI, 8, .inl nfn)), (nw4, .inl (cI, 8, .inl nft)), (nw5, .inl (cI, 3, .inl nfk)), (nw6, .inl (cI, 3, .inl nfa)), (nw7, .inl (cI, 3, .inl nfb))]) (WR := []) (va_runV (As := [.int w, .int 0, .int 3]) (rest := [.int r_20]) ⟨hx, hb, hml, hown, hts⟩ k_21 (cwV 3 hts gX1_gives_X1_asked rfl rfl rfl (by decide +kernel) ⟨Nat.le_of_ble_eq_true rfl, Nat.le_of_ble_eq_true rfl⟩) (wpz_V hZ hS hAb hP hK hD hN [0, 1, 2, 3, 4, 5, 6, 7, 8, 9, 10] (by decide) rfl (ci := 1) rfl rfl) rfl rfl hl.1 rfl (lv_room (Nat.le_of_ble_eq_true rfl)) dX1_gives_215 ⟨Nat.le_of_ble_eq_true rfl, Nat.le_of_ble_eq_true rfl⟩) hP hD hS hA [0, 1, 2, 3, 4, 5, 6, 7, 8, 9, 10] [] rfl rfl (by decide) (by decide) (fun r_21 u_21 H locs hw_21 hP hD hS => ?_)
      clear k_21
      obtain ⟨v21_0, v21_1⟩ := u_21
      have hP : va_P D kl [(h, .inr (1, [.ref nw, .ref bo, .int v21_0])), (bo, .inl (cI, 16, .inl v21_1)), (nw, .inr (3, [.int nvi, .int nro, .int nwa, .int nlz, .int nds, .int ndy, .int nga, .int npa, .ref nw0, .ref nw1, .ref nw2, .ref nw3, .ref nw4, .ref nw5, .ref nw6, .ref nw7])), (nw0, .inl (cI, 8, .inl nfw)), (nw1, .inl (cI, 8, .inl nfo)), (nw2, .inl (cI, 8, .inl nfr)), (nw3, .inl (cI, 8, .inl nfn)), (nw4, .inl (cI, 8, .inl nft)), (nw5, .inl (cI, 3, .inl nfk)), (nw6, .inl (cI, 3, .inl nfa)), (nw7, .inl (cI, 3, .inl nfb))] H := hP
      have hD : va_D A [(h, .inr (1, [.ref nw, .ref bo, .int v21_0])), (bo, .inl (cI, 16, .inl v21_1)), (nw, .inr (3, [.int nvi, .int nro, .int nwa, .int nlz, .int nds, .int ndy, .int nga, .int npa, .ref nw0, .ref nw1, .ref nw2, .ref nw3, .ref nw4, .ref nw5, .ref nw6, .ref nw7])), (nw0, .inl (cI, 8, .inl nfw)), (nw1, .inl (cI, 8, .inl nfo)), (nw2, .inl (cI, 8, .inl nfr)), (nw3, .inl (cI, 8, .inl nfn)), (nw4, .inl (cI, 8, .inl nft)), (nw5, .inl (cI, 3, .inl nfk)), (nw6, .inl (cI, 3, .inl nfa)), (nw7, .inl (cI, 3, .inl nfb))] := hD
      have c21_0 := hw_21
      have c21_0 : 0 ≤ v21_0.toInt ∧ v21_0.toInt ≤ 16 := c21_0
      refine lv_isub hx hb dX1_gives_218 ?_
      refine lv_topi (fun x_22 ex_22 => ?_)
      clear ex_22
      exact wr_i (v := x_22) hx hb hr hlocks hS (v21_0, v21_1) (by exact show 0 ≤ (v21_0 : Int32).toInt ∧ (v21_0 : Int32).toInt ≤ 16 from by omega) (hP.sub [0, 1, 2, 3, 4, 5, 6, 7, 8, 9, 10] rfl) (hD.sub [0, 1, 2, 3, 4, 5, 6, 7, 8, 9, 10] (by decide) rfl) dX1_gives_219
    · refine lv_tableIn (off := 201) (tgt := 220) hx hb dX1_gives_19 (by omega) (by omega) (by rw [g_3]; rfl) (by decide) ?_
      refine lv_iconst (v := 2) hx hb dX1_gives_220 (by decide) ?_
      refine lv_aload_n hx hb dX1_gives_221 rfl (lv_at hl 1 rfl) ?_
      refine lv_bipush (v := 21) hx hb dX1_gives_222 (by decide) ?_
      refine lv_iload_n hx hb dX1_gives_224 rfl (lv_at hl 3 rfl) ?_
      refine lv_iload hx hb dX1_gives_225 (lv_at hl 0 rfl) ?_
      have k_23 := (g_X1_gives_3 l D cI cB cQ z H.size h nw bo nw0 nw1 nw2 nw3 nw4 nw5 nw6 nw7 v1_0 nvi nro nwa nlz nds ndy nga npa 21 w v1_1 nfw nfo nfr nfn nft nfk nfa nfb nha (by omega) (by omega) (by omega) (by omega))
      refine wc_i (WC := [(h, .inr (1, [.ref nw, .ref bo, .int v1_0])), (bo, .inl (cI, 16, .inl v1_1)), (nw, .inr (3, [.int nvi, .int nro, .int nwa, .int nlz, .int nds, .int ndy, .int nga, .int npa, .ref nw0, .ref nw1, .ref nw2, .ref nw3, .ref nw4, .ref nw5, .ref nw6, .ref nw7])), (nw0, .inl (cI, 8, .inl nfw)), (nw1, .inl (cI, 8, .inl nfo)), (nw2, .inl (cI, 8, .inl nfr)), (nw3, .inl (cI, 8, .inl nfn)), (nw4, .inl (cI, 8, .inl nft)), (nw5, .inl (cI, 3, .inl nfk)), (nw6, .inl (cI, 3, .inl nfa)), (nw7, .inl (cI, 3, .inl nfb))]) (WR := []) (va_runV (As := [.int 21, .int w, .int 3]) (rest := [.int 2]) ⟨hx, hb, hml, hown, hts⟩ k_23 (cwV 3 hts gX1_gives_X1_gives rfl rfl rfl (by decide +kernel) ⟨Nat.le_of_ble_eq_true rfl, Nat.le_of_ble_eq_true rfl⟩) (wpz_V hZ hS hAb hP hK hD hN [9, 10, 0, 1, 2, 3, 4, 5, 6, 7, 8] (by decide) rfl (ci := 1) rfl rfl) rfl rfl hl.1 rfl (lv_room (Nat.le_of_ble_eq_true rfl)) dX1_gives_227 ⟨Nat.le_of_ble_eq_true rfl, Nat.le_of_ble_eq_true rfl⟩) hP hD hS hA [9, 10, 0, 1, 2, 3, 4, 5, 6, 7, 8] [] rfl rfl (by decide) (by decide) (fun r_23 u_23 H locs hw_23 hP hD hS => ?_)
      clear k_23
      obtain ⟨v23_0, v23_1⟩ := u_23
      have hP : va_P D kl [(h, .inr (1, [.ref nw, .ref bo, .int v23_0])), (bo, .inl (cI, 16, .inl v23_1)), (nw, .inr (3, [.int nvi, .int nro, .int nwa, .int nlz, .int nds, .int ndy, .int nga, .int npa, .ref nw0, .ref nw1, .ref nw2, .ref nw3, .ref nw4, .ref nw5, .ref nw6, .ref nw7])), (nw0, .inl (cI, 8, .inl nfw)), (nw1, .inl (cI, 8, .inl nfo)), (nw2, .inl (cI, 8, .inl nfr)), (nw3, .inl (cI, 8, .inl nfn)), (nw4, .inl (cI, 8, .inl nft)), (nw5, .inl (cI, 3, .inl nfk)), (nw6, .inl (cI, 3, .inl nfa)), (nw7, .inl (cI, 3, .inl nfb))] H := hP
      have hD : va_D A [(h, .inr (1, [.ref nw, .ref bo, .int v23_0])), (bo, .inl (cI, 16, .inl v23_1)), (nw, .inr (3, [.int nvi, .int nro, .int nwa, .int nlz, .int nds, .int ndy, .int nga, .int npa, .ref nw0, .ref nw1, .ref nw2, .ref nw3, .ref nw4, .ref nw5, .ref nw6, .ref nw7])), (nw0, .inl (cI, 8, .inl nfw)), (nw1, .inl (cI, 8, .inl nfo)), (nw2, .inl (cI, 8, .inl nfr)), (nw3, .inl (cI, 8, .inl nfn)), (nw4, .inl (cI, 8, .inl nft)), (nw5, .inl (cI, 3, .inl nfk)), (nw6, .inl (cI, 3, .inl nfa)), (nw7, .inl (cI, 3, .inl nfb))] := hD
      have c23_0 := hw_23
      have c23_0 : 0 ≤ v23_0.toInt ∧ v23_0.toInt ≤ 16 := c23_0
      refine lv_imul hx hb dX1_gives_230 ?_
      refine lv_topi (fun x_24 ex_24 => ?_)
      clear ex_24
      exact wr_i (v := x_24) hx hb hr hlocks hS (v23_0, v23_1) (by exact show 0 ≤ (v23_0 : Int32).toInt ∧ (v23_0 : Int32).toInt ≤ 16 from by omega) (hP.sub [0, 1, 2, 3, 4, 5, 6, 7, 8, 9, 10] rfl) (hD.sub [0, 1, 2, 3, 4, 5, 6, 7, 8, 9, 10] (by decide) rfl) dX1_gives_231
set_option maxHeartbeats 4000000 in
set_option maxRecDepth 100000 in
theorem g_X1_asked_2 (l : Launch) (D : va_G) (cI cB cQ : ClassId) (z : ZT) (sz : Nat) (h : Nat) (nw : Nat) (bo : Nat) (nw0 : Nat) (nw1 : Nat) (nw2 : Nat) (nw3 : Nat) (nw4 : Nat) (nw5 : Nat) (nw6 : Nat) (nw7 : Nat) (tc : Int32) (nvi : Int32) (nro : Int32) (nwa : Int32) (nlz : Int32) (nds : Int32) (ndy : Int32) (nga : Int32) (npa : Int32) (w : Int32) (k : Int32) (bf : Nat → Int32) (nfw : Nat → Int32) (nfo : Nat → Int32) (nfr : Nat → Int32) (nfn : Nat → Int32) (nft : Nat → Int32) (nfk : Nat → Int32) (nfa : Nat → Int32) (nfb : Nat → Int32) (nha : ∀ j, j < 3 → 0 ≤ (nfa j).toInt ∧ (nfa j).toInt ≤ 7) (h_tc : 0 ≤ tc.toInt ∧ tc.toInt ≤ 16) (h_nvi : 0 ≤ nvi.toInt ∧ nvi.toInt ≤ 8) (h_nwa : 0 ≤ nwa.toInt ∧ nwa.toInt ≤ 3) (h_w : 0 ≤ w.toInt ∧ w.toInt ≤ 2) : miz l yX1_asked wsX1_asked ({ frames := 17, cells := 0, slots := 0, locals := 395 }) z D cI cB cQ [.ref h, .int w, .int k, .int 2] sz [(h, .inr (1, [.ref nw, .ref bo, .int tc])), (bo, .inl (cI, 16, .inl bf)), (nw, .inr (3, [.int nvi, .int nro, .int nwa, .int nlz, .int nds, .int ndy, .int nga, .int npa, .ref nw0, .ref nw1, .ref nw2, .ref nw3, .ref nw4, .ref nw5, .ref nw6, .ref nw7])), (nw0, .inl (cI, 8, .inl nfw)), (nw1, .inl (cI, 8, .inl nfo)), (nw2, .inl (cI, 8, .inl nfr)), (nw3, .inl (cI, 8, .inl nfn)), (nw4, .inl (cI, 8, .inl nft)), (nw5, .inl (cI, 3, .inl nfk)), (nw6, .inl (cI, 3, .inl nfa)), (nw7, .inl (cI, 3, .inl nfb))] (fun (r : Int32) (u : Int32 × (Nat → Int32)) => (0 ≤ u.1.toInt ∧ u.1.toInt ≤ 16)) (fun u => [(h, .inr (1, [.ref nw, .ref bo, .int u.1])), (bo, .inl (cI, 16, .inl u.2)), (nw, .inr (3, [.int nvi, .int nro, .int nwa, .int nlz, .int nds, .int ndy, .int nga, .int npa, .ref nw0, .ref nw1, .ref nw2, .ref nw3, .ref nw4, .ref nw5, .ref nw6, .ref nw7])), (nw0, .inl (cI, 8, .inl nfw)), (nw1, .inl (cI, 8, .inl nfo)), (nw2, .inl (cI, 8, .inl nfr)), (nw3, .inl (cI, 8, .inl nfn)), (nw4, .inl (cI, 8, .inl nft)), (nw5, .inl (cI, 3, .inl nfk)), (nw6, .inl (cI, 3, .inl nfa)), (nw7, .inl (cI, 3, .inl nfb))]) 0 0 := by
  refine wm_z (cc := cX1_asked) (maxL := 4) (ret := (some .int)) (by decide) rfl (Nat.le_of_ble_eq_true rfl) ?_
  intro p e s m below meth c A ls hZ hAb hx hb hr hml hown hts hlocks hin hP hK hD hN hA hl hS
  have hown : s.vm.findClass RX1 = some m.cls := hown
  have hl : lv_has ls 4 [(0, .ref h), (1, .int w), (2, .int k), (3, .int 2)] := hl
  change W p l e ({ frames := 17, cells := 0, slots := 0, locals := 395 }) s m ([.ref h, .int w, .int k, .int 2] : List Value).toArray below meth c s.heap [] 0 0 (MQ below (va_Qi (fun (r : Int32) (u : Int32 × (Nat → Int32)) => (0 ≤ u.1.toInt ∧ u.1.toInt ≤ 16)) (fun u t => wb D A ((fun u => [(h, .inr (1, [.ref nw, .ref bo, .int u.1])), (bo, .inl (cI, 16, .inl u.2)), (nw, .inr (3, [.int nvi, .int nro, .int nwa, .int nlz, .int nds, .int ndy, .int nga, .int npa, .ref nw0, .ref nw1, .ref nw2, .ref nw3, .ref nw4, .ref nw5, .ref nw6, .ref nw7])), (nw0, .inl (cI, 8, .inl nfw)), (nw1, .inl (cI, 8, .inl nfo)), (nw2, .inl (cI, 8, .inl nfr)), (nw3, .inl (cI, 8, .inl nfn)), (nw4, .inl (cI, 8, .inl nft)), (nw5, .inl (cI, 3, .inl nfk)), (nw6, .inl (cI, 3, .inl nfa)), (nw7, .inl (cI, 3, .inl nfb))]) u) t) A) ([.ref h, .int w, .int k, .int 2] : List Value).toArray s 0 0 A) (F0 m 0 ls [])
  refine lv_aload_n hx hb dX1_asked_0 rfl (lv_at hl 0 rfl) ?_
  refine lv_aload_n hx hb dX1_asked_1 rfl (lv_at hl 0 rfl) ?_
  refine va_get (D := D) (ci := 1) (v := .ref nw) (C := RX1) (T := TX1) (N := 3) hx hb hts (fun _ h => List.mem_cons_of_mem _ (List.mem_append_left _ (List.mem_append_right _ h))) hown hK hP 0 rfl rfl 0 (by decide) (hts (.fieldLink RX1 19 "WinterWalk$Asks" "land" "LWinterWalk$Land;") (List.mem_of_getElem? (i := 1) rfl)) (fun _ h9 => h9) rfl dX1_asked_2 ?_
  refine va_get (D := D) (ci := 3) (v := .ref nw5) (C := RX4) (T := TX4) (N := 16) hx hb hts (fun _ h => List.mem_cons_of_mem _ (List.mem_append_right _ h)) hown hK hP 2 rfl rfl 13 (by decide) (hts (.fieldLink RX1 27 "WinterWalk$Land" "kinds" "[I") (List.mem_of_getElem? (i := 2) rfl)) (fun _ h9 => h9) rfl dX1_asked_5 ?_
  refine lv_iload_n hx hb dX1_asked_8 rfl (lv_at hl 1 rfl) ?_
  refine va_iald hx hb hK hP 8 0 rfl rfl (zi_in (by omega) (by omega)) dX1_asked_9 ?_
  refine lv_topi (fun x_1 ex_1 => ?_)
  clear ex_1
  refine lv_iload_n hx hb dX1_asked_10 rfl (lv_at hl 2 rfl) ?_
  have k_2 := (g_X1_bodyFor l D cI cB cQ z s.heap.size x_1 k)
  refine wc_i (WC := []) (WR := [(h, .inr (1, [.ref nw, .ref bo, .int tc])), (bo, .inl (cI, 16, .inl bf)), (nw, .inr (3, [.int nvi, .int nro, .int nwa, .int nlz, .int nds, .int ndy, .int nga, .int npa, .ref nw0, .ref nw1, .ref nw2, .ref nw3, .ref nw4, .ref nw5, .ref nw6, .ref nw7])), (nw0, .inl (cI, 8, .inl nfw)), (nw1, .inl (cI, 8, .inl nfo)), (nw2, .inl (cI, 8, .inl nfr)), (nw3, .inl (cI, 8, .inl nfn)), (nw4, .inl (cI, 8, .inl nft)), (nw5, .inl (cI, 3, .inl nfk)), (nw6, .inl (cI, 3, .inl nfa)), (nw7, .inl (cI, 3, .inl nfb))]) (va_runS (As := [.int x_1, .int k]) (rest := [.ref h]) ⟨hx, hb, hml, hown, hts⟩ k_2 (va_cwS 2 hts gX1_asked_X1_bodyFor rfl rfl rfl (by decide +kernel) ⟨Nat.le_of_ble_eq_true rfl, Nat.le_of_ble_eq_true rfl⟩) (wpz_S hZ hS hAb hP hK hD hN [] (by decide) rfl) rfl rfl hl.1 rfl (lv_room (Nat.le_of_ble_eq_true rfl)) dX1_asked_11 ⟨Nat.le_of_ble_eq_true rfl, Nat.le_of_ble_eq_true rfl⟩) hP hD hS hA [] [0, 1, 2, 3, 4, 5, 6, 7, 8, 9, 10] rfl rfl (by decide) (by decide) (fun r_2 u_2 H locs hw_2 hP hD hS => ?_)
  clear k_2
  have hP : va_P D kl [(h, .inr (1, [.ref nw, .ref bo, .int tc])), (bo, .inl (cI, 16, .inl bf)), (nw, .inr (3, [.int nvi, .int nro, .int nwa, .int nlz, .int nds, .int ndy, .int nga, .int npa, .ref nw0, .ref nw1, .ref nw2, .ref nw3, .ref nw4, .ref nw5, .ref nw6, .ref nw7])), (nw0, .inl (cI, 8, .inl nfw)), (nw1, .inl (cI, 8, .inl nfo)), (nw2, .inl (cI, 8, .inl nfr)), (nw3, .inl (cI, 8, .inl nfn)), (nw4, .inl (cI, 8, .inl nft)), (nw5, .inl (cI, 3, .inl nfk)), (nw6, .inl (cI, 3, .inl nfa)), (nw7, .inl (cI, 3, .inl nfb))] H := hP
  have hD : va_D A [(h, .inr (1, [.ref nw, .ref bo, .int tc])), (bo, .inl (cI, 16, .inl bf)), (nw, .inr (3, [.int nvi, .int nro, .int nwa, .int nlz, .int nds, .int ndy, .int nga, .int npa, .ref nw0, .ref nw1, .ref nw2, .ref nw3, .ref nw4, .ref nw5, .ref nw6, .ref nw7])), (nw0, .inl (cI, 8, .inl nfw)), (nw1, .inl (cI, 8, .inl nfo)), (nw2, .inl (cI, 8, .inl nfr)), (nw3, .inl (cI, 8, .inl nfn)), (nw4, .inl (cI, 8, .inl nft)), (nw5, .inl (cI, 3, .inl nfk)), (nw6, .inl (cI, 3, .inl nfa)), (nw7, .inl (cI, 3, .inl nfb))] := hD
  clear hw_2
  refine lv_iload_n hx hb dX1_asked_14 rfl (lv_at hl 1 rfl) ?_
  refine lv_iload_n hx hb dX1_asked_15 rfl (lv_at hl 3 rfl) ?_
  have k_3 := (g_X1_gives_2 l D cI cB cQ z H.size h nw bo nw0 nw1 nw2 nw3 nw4 nw5 nw6 nw7 tc nvi nro nwa nlz nds ndy nga npa r_2 w bf nfw nfo nfr nfn nft nfk nfa nfb nha (by omega) (by omega) (by omega) (by omega))
  refine wc_i (WC := [(h, .inr (1, [.ref nw, .ref bo, .int tc])), (bo, .inl (cI, 16, .inl bf)), (nw, .inr (3, [.int nvi, .int nro, .int nwa, .int nlz, .int nds, .int ndy, .int nga, .int npa, .ref nw0, .ref nw1, .ref nw2, .ref nw3, .ref nw4, .ref nw5, .ref nw6, .ref nw7])), (nw0, .inl (cI, 8, .inl nfw)), (nw1, .inl (cI, 8, .inl nfo)), (nw2, .inl (cI, 8, .inl nfr)), (nw3, .inl (cI, 8, .inl nfn)), (nw4, .inl (cI, 8, .inl nft)), (nw5, .inl (cI, 3, .inl nfk)), (nw6, .inl (cI, 3, .inl nfa)), (nw7, .inl (cI, 3, .inl nfb))]) (WR := []) (va_runV (As := [.int r_2, .int w, .int 2]) (rest := []) ⟨hx, hb, hml, hown, hts⟩ k_3 (cwV 3 hts gX1_asked_X1_gives rfl rfl rfl (by decide +kernel) ⟨Nat.le_of_ble_eq_true rfl, Nat.le_of_ble_eq_true rfl⟩) (wpz_V hZ hS hAb hP hK hD hN [0, 1, 2, 3, 4, 5, 6, 7, 8, 9, 10] (by decide) rfl (ci := 1) rfl rfl) rfl rfl hl.1 rfl (lv_room (Nat.le_of_ble_eq_true rfl)) dX1_asked_16 ⟨Nat.le_of_ble_eq_true rfl, Nat.le_of_ble_eq_true rfl⟩) hP hD hS hA [0, 1, 2, 3, 4, 5, 6, 7, 8, 9, 10] [] rfl rfl (by decide) (by decide) (fun r_3 u_3 H locs hw_3 hP hD hS => ?_)
  clear k_3
  obtain ⟨v3_0, v3_1⟩ := u_3
  have hP : va_P D kl [(h, .inr (1, [.ref nw, .ref bo, .int v3_0])), (bo, .inl (cI, 16, .inl v3_1)), (nw, .inr (3, [.int nvi, .int nro, .int nwa, .int nlz, .int nds, .int ndy, .int nga, .int npa, .ref nw0, .ref nw1, .ref nw2, .ref nw3, .ref nw4, .ref nw5, .ref nw6, .ref nw7])), (nw0, .inl (cI, 8, .inl nfw)), (nw1, .inl (cI, 8, .inl nfo)), (nw2, .inl (cI, 8, .inl nfr)), (nw3, .inl (cI, 8, .inl nfn)), (nw4, .inl (cI, 8, .inl nft)), (nw5, .inl (cI, 3, .inl nfk)), (nw6, .inl (cI, 3, .inl nfa)), (nw7, .inl (cI, 3, .inl nfb))] H := hP
  have hD : va_D A [(h, .inr (1, [.ref nw, .ref bo, .int v3_0])), (bo, .inl (cI, 16, .inl v3_1)), (nw, .inr (3, [.int nvi, .int nro, .int nwa, .int nlz, .int nds, .int ndy, .int nga, .int npa, .ref nw0, .ref nw1, .ref nw2, .ref nw3, .ref nw4, .ref nw5, .ref nw6, .ref nw7])), (nw0, .inl (cI, 8, .inl nfw)), (nw1, .inl (cI, 8, .inl nfo)), (nw2, .inl (cI, 8, .inl nfr)), (nw3, .inl (cI, 8, .inl nfn)), (nw4, .inl (cI, 8, .inl nft)), (nw5, .inl (cI, 3, .inl nfk)), (nw6, .inl (cI, 3, .inl nfa)), (nw7, .inl (cI, 3, .inl nfb))] := hD
  have c3_0 := hw_3
  have c3_0 : 0 ≤ v3_0.toInt ∧ v3_0.toInt ≤ 16 := c3_0
  exact wr_i (v := r_3) hx hb hr hlocks hS (v3_0, v3_1) (by exact show 0 ≤ (v3_0 : Int32).toInt ∧ (v3_0 : Int32).toInt ≤ 16 from by omega) (hP.sub [0, 1, 2, 3, 4, 5, 6, 7, 8, 9, 10] rfl) (hD.sub [0, 1, 2, 3, 4, 5, 6, 7, 8, 9, 10] (by decide) rfl) dX1_asked_19
set_option maxHeartbeats 4000000 in
set_option maxRecDepth 100000 in
theorem g_X1_gives_1 (l : Launch) (D : va_G) (cI cB cQ : ClassId) (z : ZT) (sz : Nat) (h : Nat) (nw : Nat) (bo : Nat) (nw0 : Nat) (nw1 : Nat) (nw2 : Nat) (nw3 : Nat) (nw4 : Nat) (nw5 : Nat) (nw6 : Nat) (nw7 : Nat) (tc : Int32) (nvi : Int32) (nro : Int32) (nwa : Int32) (nlz : Int32) (nds : Int32) (ndy : Int32) (nga : Int32) (npa : Int32) (k : Int32) (w : Int32) (bf : Nat → Int32) (nfw : Nat → Int32) (nfo : Nat → Int32) (nfr : Nat → Int32) (nfn : Nat → Int32) (nft : Nat → Int32) (nfk : Nat → Int32) (nfa : Nat → Int32) (nfb : Nat → Int32) (nha : ∀ j, j < 3 → 0 ≤ (nfa j).toInt ∧ (nfa j).toInt ≤ 7) (h_tc : 0 ≤ tc.toInt ∧ tc.toInt ≤ 16) (h_nvi : 0 ≤ nvi.toInt ∧ nvi.toInt ≤ 8) (h_nwa : 0 ≤ nwa.toInt ∧ nwa.toInt ≤ 3) (h_w : 0 ≤ w.toInt ∧ w.toInt ≤ 2) : miz l yX1_gives wsX1_gives ({ frames := 18, cells := 0, slots := 0, locals := 418 }) z D cI cB cQ [.ref h, .int k, .int w, .int 1] sz [(h, .inr (1, [.ref nw, .ref bo, .int tc])), (bo, .inl (cI, 16, .inl bf)), (nw, .inr (3, [.int nvi, .int nro, .int nwa, .int nlz, .int nds, .int ndy, .int nga, .int npa, .ref nw0, .ref nw1, .ref nw2, .ref nw3, .ref nw4, .ref nw5, .ref nw6, .ref nw7])), (nw0, .inl (cI, 8, .inl nfw)), (nw1, .inl (cI, 8, .inl nfo)), (nw2, .inl (cI, 8, .inl nfr)), (nw3, .inl (cI, 8, .inl nfn)), (nw4, .inl (cI, 8, .inl nft)), (nw5, .inl (cI, 3, .inl nfk)), (nw6, .inl (cI, 3, .inl nfa)), (nw7, .inl (cI, 3, .inl nfb))] (fun (r : Int32) (u : Int32 × (Nat → Int32)) => (0 ≤ u.1.toInt ∧ u.1.toInt ≤ 16)) (fun u => [(h, .inr (1, [.ref nw, .ref bo, .int u.1])), (bo, .inl (cI, 16, .inl u.2)), (nw, .inr (3, [.int nvi, .int nro, .int nwa, .int nlz, .int nds, .int ndy, .int nga, .int npa, .ref nw0, .ref nw1, .ref nw2, .ref nw3, .ref nw4, .ref nw5, .ref nw6, .ref nw7])), (nw0, .inl (cI, 8, .inl nfw)), (nw1, .inl (cI, 8, .inl nfo)), (nw2, .inl (cI, 8, .inl nfr)), (nw3, .inl (cI, 8, .inl nfn)), (nw4, .inl (cI, 8, .inl nft)), (nw5, .inl (cI, 3, .inl nfk)), (nw6, .inl (cI, 3, .inl nfa)), (nw7, .inl (cI, 3, .inl nfb))]) 0 0 := by
  refine wm_z (cc := cX1_gives) (maxL := 5) (ret := (some .int)) (by decide) rfl (Nat.le_of_ble_eq_true rfl) ?_
  intro p e s m below meth c A ls hZ hAb hx hb hr hml hown hts hlocks hin hP hK hD hN hA hl hS
  have hown : s.vm.findClass RX1 = some m.cls := hown
  have hl : lv_has ls 5 [(0, .ref h), (1, .int k), (2, .int w), (3, .int 1)] := hl
  change W p l e ({ frames := 18, cells := 0, slots := 0, locals := 418 }) s m ([.ref h, .int k, .int w, .int 1] : List Value).toArray below meth c s.heap [] 0 0 (MQ below (va_Qi (fun (r : Int32) (u : Int32 × (Nat → Int32)) => (0 ≤ u.1.toInt ∧ u.1.toInt ≤ 16)) (fun u t => wb D A ((fun u => [(h, .inr (1, [.ref nw, .ref bo, .int u.1])), (bo, .inl (cI, 16, .inl u.2)), (nw, .inr (3, [.int nvi, .int nro, .int nwa, .int nlz, .int nds, .int ndy, .int nga, .int npa, .ref nw0, .ref nw1, .ref nw2, .ref nw3, .ref nw4, .ref nw5, .ref nw6, .ref nw7])), (nw0, .inl (cI, 8, .inl nfw)), (nw1, .inl (cI, 8, .inl nfo)), (nw2, .inl (cI, 8, .inl nfr)), (nw3, .inl (cI, 8, .inl nfn)), (nw4, .inl (cI, 8, .inl nft)), (nw5, .inl (cI, 3, .inl nfk)), (nw6, .inl (cI, 3, .inl nfa)), (nw7, .inl (cI, 3, .inl nfb))]) u) t) A) ([.ref h, .int k, .int w, .int 1] : List Value).toArray s 0 0 A) (F0 m 0 ls [])
  refine lv_iload_n hx hb dX1_gives_0 rfl (lv_at hl 3 rfl) ?_
  refine lv_bipush (v := 8) hx hb dX1_gives_1 (by decide) ?_
  refine lv_icmp_le (tgt := 8) hx hb dX1_gives_3 (by decide) (fun _ => ?_) (fun c9 => absurd (by decide) c9)
  refine lv_aload_n hx hb dX1_gives_8 rfl (lv_at hl 0 rfl) ?_
  refine lv_iload_n hx hb dX1_gives_9 rfl (lv_at hl 1 rfl) ?_
  have k_1 := (g_X1_leaveTrace l D cI cB cQ s.heap.size h nw bo tc k bf (by omega))
  refine wc_v (WC := [(h, .inr (1, [.ref nw, .ref bo, .int tc])), (bo, .inl (cI, 16, .inl bf))]) (WR := [(nw, .inr (3, [.int nvi, .int nro, .int nwa, .int nlz, .int nds, .int ndy, .int nga, .int npa, .ref nw0, .ref nw1, .ref nw2, .ref nw3, .ref nw4, .ref nw5, .ref nw6, .ref nw7])), (nw0, .inl (cI, 8, .inl nfw)), (nw1, .inl (cI, 8, .inl nfo)), (nw2, .inl (cI, 8, .inl nfr)), (nw3, .inl (cI, 8, .inl nfn)), (nw4, .inl (cI, 8, .inl nft)), (nw5, .inl (cI, 3, .inl nfk)), (nw6, .inl (cI, 3, .inl nfa)), (nw7, .inl (cI, 3, .inl nfb))]) (va_runV (As := [.int k]) (rest := []) ⟨hx, hb, hml, hown, hts⟩ k_1 (cwV 1 hts gX1_gives_X1_leaveTrace rfl rfl rfl (by decide +kernel) ⟨Nat.le_of_ble_eq_true rfl, Nat.le_of_ble_eq_true rfl⟩) (wp_V hP hK hD hN [0, 1] (by decide) rfl (ci := 1) rfl rfl) rfl rfl hl.1 rfl (lv_room (Nat.le_of_ble_eq_true rfl)) dX1_gives_10 ⟨Nat.le_of_ble_eq_true rfl, Nat.le_of_ble_eq_true rfl⟩) hP hD hS hA [0, 1] [2, 3, 4, 5, 6, 7, 8, 9, 10] rfl rfl (by decide) (by decide) (fun u_1 H locs hw_1 hP hD hS => ?_)
  clear k_1
  obtain ⟨v1_0, v1_1⟩ := u_1
  have hP : va_P D kl [(nw, .inr (3, [.int nvi, .int nro, .int nwa, .int nlz, .int nds, .int ndy, .int nga, .int npa, .ref nw0, .ref nw1, .ref nw2, .ref nw3, .ref nw4, .ref nw5, .ref nw6, .ref nw7])), (nw0, .inl (cI, 8, .inl nfw)), (nw1, .inl (cI, 8, .inl nfo)), (nw2, .inl (cI, 8, .inl nfr)), (nw3, .inl (cI, 8, .inl nfn)), (nw4, .inl (cI, 8, .inl nft)), (nw5, .inl (cI, 3, .inl nfk)), (nw6, .inl (cI, 3, .inl nfa)), (nw7, .inl (cI, 3, .inl nfb)), (h, .inr (1, [.ref nw, .ref bo, .int v1_0])), (bo, .inl (cI, 16, .inl v1_1))] H := hP
  have hD : va_D A [(nw, .inr (3, [.int nvi, .int nro, .int nwa, .int nlz, .int nds, .int ndy, .int nga, .int npa, .ref nw0, .ref nw1, .ref nw2, .ref nw3, .ref nw4, .ref nw5, .ref nw6, .ref nw7])), (nw0, .inl (cI, 8, .inl nfw)), (nw1, .inl (cI, 8, .inl nfo)), (nw2, .inl (cI, 8, .inl nfr)), (nw3, .inl (cI, 8, .inl nfn)), (nw4, .inl (cI, 8, .inl nft)), (nw5, .inl (cI, 3, .inl nfk)), (nw6, .inl (cI, 3, .inl nfa)), (nw7, .inl (cI, 3, .inl nfb)), (h, .inr (1, [.ref nw, .ref bo, .int v1_0])), (bo, .inl (cI, 16, .inl v1_1))] := hD
  have c1_0 := hw_1
  have c1_0 : 0 ≤ v1_0.toInt ∧ v1_0.toInt ≤ 16 := c1_0
  refine lv_iload_n hx hb dX1_gives_13 rfl (lv_at hl 3 rfl) ?_
  refine lv_iconst (v := 1) hx hb dX1_gives_14 (by decide) ?_
  refine lv_iadd hx hb dX1_gives_15 ?_
  refine lv_topi (fun x_2 ex_2 => ?_)
  obtain rfl : x_2 = 2 := ex_2.trans (by decide)
  refine lv_istore (lv' := [(4, .int 2), (0, .ref h), (1, .int k), (2, .int w), (3, .int 1)]) hx hb dX1_gives_16 hl (by decide) rfl (fun ls hl => ?_)
  refine lv_iload_n hx hb dX1_gives_18 rfl (lv_at hl 2 rfl) ?_
  by_cases f_3 : k.toInt < 10 ∨ 24 < k.toInt
  · refine lv_tableOut (tgt := 232) hx hb dX1_gives_19 f_3 (by decide) ?_
    refine lv_iconst (v := 0) hx hb dX1_gives_232 (by decide) ?_
    exact wr_i (v := 0) hx hb hr hlocks hS (v1_0, v1_1) (by exact show 0 ≤ (v1_0 : Int32).toInt ∧ (v1_0 : Int32).toInt ≤ 16 from by omega) (hP.sub [9, 10, 0, 1, 2, 3, 4, 5, 6, 7, 8] rfl) (hD.sub [9, 10, 0, 1, 2, 3, 4, 5, 6, 7, 8] (by decide) rfl) dX1_gives_233
  · rcases (show k.toInt = 10 ∨ k.toInt = 11 ∨ k.toInt = 12 ∨ k.toInt = 13 ∨ k.toInt = 14 ∨ k.toInt = 15 ∨ k.toInt = 16 ∨ k.toInt = 17 ∨ k.toInt = 18 ∨ k.toInt = 19 ∨ k.toInt = 20 ∨ k.toInt = 21 ∨ k.toInt = 22 ∨ k.toInt = 23 ∨ k.toInt = 24 by omega) with g_3 | g_3 | g_3 | g_3 | g_3 | g_3 | g_3 | g_3 | g_3 | g_3 | g_3 | g_3 | g_3 | g_3 | g_3
    · refine lv_tableIn (off := 73) (tgt := 92) hx hb dX1_gives_19 (by omega) (by omega) (by rw [g_3]; rfl) (by decide) ?_
      refine lv_aload_n hx hb dX1_gives_92 rfl (lv_at hl 1 rfl) ?_
      refine va_get (D := D) (ci := 1) (v := .ref nw) (C := RX1) (T := TX1) (N := 3) hx hb hts (fun _ h => List.mem_cons_of_mem _ (List.mem_append_left _ (List.mem_append_right _ h))) hown hK hP 9 rfl rfl 0 (by decide) (hts (.fieldLink RX1 19 "WinterWalk$Asks" "land" "LWinterWalk$Land;") (List.mem_of_getElem? (i := 1) rfl)) (fun _ h9 => h9) rfl dX1_gives_93 ?_
      refine va_get (D := D) (ci := 3) (v := .ref nw6) (C := RX4) (T := TX4) (N := 16) hx hb hts (fun _ h => List.mem_cons_of_mem _ (List.mem_append_right _ h)) hown hK hP 0 rfl rfl 14 (by decide) (hts (.fieldLink RX1 59 "WinterWalk$Land" "at" "[I") (List.mem_of_getElem? (i := 2) rfl)) (fun _ h9 => h9) rfl dX1_gives_96 ?_
      refine lv_iload_n hx hb dX1_gives_99 rfl (lv_at hl 3 rfl) ?_
      refine va_iald hx hb hK hP 7 0 rfl rfl (zi_in (by omega) (by omega)) dX1_gives_100 ?_
      refine lv_topi (fun x_4 ex_4 => ?_)
      have f_4 : 0 ≤ x_4.toInt ∧ x_4.toInt ≤ 7 := by rw [ex_4]; exact nha _ (zi_cl (by omega) (by omega))
      clear ex_4
      exact wr_i (v := x_4) hx hb hr hlocks hS (v1_0, v1_1) (by exact show 0 ≤ (v1_0 : Int32).toInt ∧ (v1_0 : Int32).toInt ≤ 16 from by omega) (hP.sub [9, 10, 0, 1, 2, 3, 4, 5, 6, 7, 8] rfl) (hD.sub [9, 10, 0, 1, 2, 3, 4, 5, 6, 7, 8] (by decide) rfl) dX1_gives_101
    · refine lv_tableIn (off := 83) (tgt := 102) hx hb dX1_gives_19 (by omega) (by omega) (by rw [g_3]; rfl) (by decide) ?_
      refine lv_aload_n hx hb dX1_gives_102 rfl (lv_at hl 1 rfl) ?_
      refine lv_bipush (v := 10) hx hb dX1_gives_103 (by decide) ?_
      refine lv_iload_n hx hb dX1_gives_105 rfl (lv_at hl 3 rfl) ?_
      refine lv_iload hx hb dX1_gives_106 (lv_at hl 0 rfl) ?_
      have k_5 := (g_X1_gives_2 l D cI cB cQ z H.size h nw bo nw0 nw1 nw2 nw3 nw4 nw5 nw6 nw7 v1_0 nvi nro nwa nlz nds ndy nga npa 10 w v1_1 nfw nfo nfr nfn nft nfk nfa nfb nha (by omega) (by omega) (by omega) (by omega))
      refine wc_i (WC := [(h, .inr (1, [.ref nw, .ref bo, .int v1_0])), (bo, .inl (cI, 16, .inl v1_1)), (nw, .inr (3, [.int nvi, .int nro, .int nwa, .int nlz, .int nds, .int ndy, .int nga, .int npa, .ref nw0, .ref nw1, .ref nw2, .ref nw3, .ref nw4, .ref nw5, .ref nw6, .ref nw7])), (nw0, .inl (cI, 8, .inl nfw)), (nw1, .inl (cI, 8, .inl nfo)), (nw2, .inl (cI, 8, .inl nfr)), (nw3, .inl (cI, 8, .inl nfn)), (nw4, .inl (cI, 8, .inl nft)), (nw5, .inl (cI, 3, .inl nfk)), (nw6, .inl (cI, 3, .inl nfa)), (nw7, .inl (cI, 3, .inl nfb))]) (WR := []) (va_runV (As := [.int 10, .int w, .int 2]) (rest := []) ⟨hx, hb, hml, hown, hts⟩ k_5 (cwV 3 hts gX1_gives_X1_gives rfl rfl rfl (by decide +kernel) ⟨Nat.le_of_ble_eq_true rfl, Nat.le_of_ble_eq_true rfl⟩) (wpz_V hZ hS hAb hP hK hD hN [9, 10, 0, 1, 2, 3, 4, 5, 6, 7, 8] (by decide) rfl (ci := 1) rfl rfl) rfl rfl hl.1 rfl (lv_room (Nat.le_of_ble_eq_true rfl)) dX1_gives_108 ⟨Nat.le_of_ble_eq_true rfl, Nat.le_of_ble_eq_true rfl⟩) hP hD hS hA [9, 10, 0, 1, 2, 3, 4, 5, 6, 7, 8] [] rfl rfl (by decide) (by decide) (fun r_5 u_5 H locs hw_5 hP hD hS => ?_)
      clear k_5
      obtain ⟨v5_0, v5_1⟩ := u_5
      have hP : va_P D kl [(h, .inr (1, [.ref nw, .ref bo, .int v5_0])), (bo, .inl (cI, 16, .inl v5_1)), (nw, .inr (3, [.int nvi, .int nro, .int nwa, .int nlz, .int nds, .int ndy, .int nga, .int npa, .ref nw0, .ref nw1, .ref nw2, .ref nw3, .ref nw4, .ref nw5, .ref nw6, .ref nw7])), (nw0, .inl (cI, 8, .inl nfw)), (nw1, .inl (cI, 8, .inl nfo)), (nw2, .inl (cI, 8, .inl nfr)), (nw3, .inl (cI, 8, .inl nfn)), (nw4, .inl (cI, 8, .inl nft)), (nw5, .inl (cI, 3, .inl nfk)), (nw6, .inl (cI, 3, .inl nfa)), (nw7, .inl (cI, 3, .inl nfb))] H := hP
      have hD : va_D A [(h, .inr (1, [.ref nw, .ref bo, .int v5_0])), (bo, .inl (cI, 16, .inl v5_1)), (nw, .inr (3, [.int nvi, .int nro, .int nwa, .int nlz, .int nds, .int ndy, .int nga, .int npa, .ref nw0, .ref nw1, .ref nw2, .ref nw3, .ref nw4, .ref nw5, .ref nw6, .ref nw7])), (nw0, .inl (cI, 8, .inl nfw)), (nw1, .inl (cI, 8, .inl nfo)), (nw2, .inl (cI, 8, .inl nfr)), (nw3, .inl (cI, 8, .inl nfn)), (nw4, .inl (cI, 8, .inl nft)), (nw5, .inl (cI, 3, .inl nfk)), (nw6, .inl (cI, 3, .inl nfa)), (nw7, .inl (cI, 3, .inl nfb))] := hD
      have c5_0 := hw_5
      have c5_0 : 0 ≤ v5_0.toInt ∧ v5_0.toInt ≤ 16 := c5_0
      refine lv_aload_n hx hb dX1_gives_111 rfl (lv_at hl 1 rfl) ?_
      refine lv_iload_n hx hb dX1_gives_112 rfl (lv_at hl 3 rfl) ?_
      refine lv_iconst (v := 1) hx hb dX1_gives_113 (by decide) ?_
      refine lv_iload hx hb dX1_gives_114 (lv_at hl 0 rfl) ?_
      have k_6 := (g_X1_asked_2 l D cI cB cQ z H.size h nw bo nw0 nw1 nw2 nw3 nw4 nw5 nw6 nw7 v5_0 nvi nro nwa nlz nds ndy nga npa w 1 v5_1 nfw nfo nfr nfn nft nfk nfa nfb nha (by omega) (by omega) (by omega) (by omega))
      refine wc_i (WC := [(h, .inr (1, [.ref nw, .ref bo, .int v5_0])), (bo, .inl (cI, 16, .inl v5_1)), (nw, .inr (3, [.int nvi, .int nro, .int nwa, .int nlz, .int nds, .int ndy, .int nga, .int npa, .ref nw0, .ref nw1, .ref nw2, .ref nw3, .ref nw4, .ref nw5, .ref nw6, .ref nw7])), (nw0, .inl (cI, 8, .inl nfw)), (nw1, .inl (cI, 8, .inl nfo)), (nw2, .inl (cI, 8, .inl nfr)), (nw3, .inl (cI, 8, .inl nfn)), (nw4, .inl (cI, 8, .inl nft)), (nw5, .inl (cI, 3, .inl nfk)), (nw6, .inl (cI, 3, .inl nfa)), (nw7, .inl (cI, 3, .inl nfb))]) (WR := []) (va_runV (As := [.int w, .int 1, .int 2]) (rest := [.int r_5]) ⟨hx, hb, hml, hown, hts⟩ k_6 (cwV 3 hts gX1_gives_X1_asked rfl rfl rfl (by decide +kernel) ⟨Nat.le_of_ble_eq_true rfl, Nat.le_of_ble_eq_true rfl⟩) (wpz_V hZ hS hAb hP hK hD hN [0, 1, 2, 3, 4, 5, 6, 7, 8, 9, 10] (by decide) rfl (ci := 1) rfl rfl) rfl rfl hl.1 rfl (lv_room (Nat.le_of_ble_eq_true rfl)) dX1_gives_116 ⟨Nat.le_of_ble_eq_true rfl, Nat.le_of_ble_eq_true rfl⟩) hP hD hS hA [0, 1, 2, 3, 4, 5, 6, 7, 8, 9, 10] [] rfl rfl (by decide) (by decide) (fun r_6 u_6 H locs hw_6 hP hD hS => ?_)
      clear k_6
      obtain ⟨v6_0, v6_1⟩ := u_6
      have hP : va_P D kl [(h, .inr (1, [.ref nw, .ref bo, .int v6_0])), (bo, .inl (cI, 16, .inl v6_1)), (nw, .inr (3, [.int nvi, .int nro, .int nwa, .int nlz, .int nds, .int ndy, .int nga, .int npa, .ref nw0, .ref nw1, .ref nw2, .ref nw3, .ref nw4, .ref nw5, .ref nw6, .ref nw7])), (nw0, .inl (cI, 8, .inl nfw)), (nw1, .inl (cI, 8, .inl nfo)), (nw2, .inl (cI, 8, .inl nfr)), (nw3, .inl (cI, 8, .inl nfn)), (nw4, .inl (cI, 8, .inl nft)), (nw5, .inl (cI, 3, .inl nfk)), (nw6, .inl (cI, 3, .inl nfa)), (nw7, .inl (cI, 3, .inl nfb))] H := hP
      have hD : va_D A [(h, .inr (1, [.ref nw, .ref bo, .int v6_0])), (bo, .inl (cI, 16, .inl v6_1)), (nw, .inr (3, [.int nvi, .int nro, .int nwa, .int nlz, .int nds, .int ndy, .int nga, .int npa, .ref nw0, .ref nw1, .ref nw2, .ref nw3, .ref nw4, .ref nw5, .ref nw6, .ref nw7])), (nw0, .inl (cI, 8, .inl nfw)), (nw1, .inl (cI, 8, .inl nfo)), (nw2, .inl (cI, 8, .inl nfr)), (nw3, .inl (cI, 8, .inl nfn)), (nw4, .inl (cI, 8, .inl nft)), (nw5, .inl (cI, 3, .inl nfk)), (nw6, .inl (cI, 3, .inl nfa)), (nw7, .inl (cI, 3, .inl nfb))] := hD
      have c6_0 := hw_6
      have c6_0 : 0 ≤ v6_0.toInt ∧ v6_0.toInt ≤ 16 := c6_0
      refine lv_iadd hx hb dX1_gives_119 ?_
      refine lv_topi (fun x_7 ex_7 => ?_)
      clear ex_7
      exact wr_i (v := x_7) hx hb hr hlocks hS (v6_0, v6_1) (by exact show 0 ≤ (v6_0 : Int32).toInt ∧ (v6_0 : Int32).toInt ≤ 16 from by omega) (hP.sub [0, 1, 2, 3, 4, 5, 6, 7, 8, 9, 10] rfl) (hD.sub [0, 1, 2, 3, 4, 5, 6, 7, 8, 9, 10] (by decide) rfl) dX1_gives_120
    · refine lv_tableIn (off := 102) (tgt := 121) hx hb dX1_gives_19 (by omega) (by omega) (by rw [g_3]; rfl) (by decide) ?_
      refine lv_aload_n hx hb dX1_gives_121 rfl (lv_at hl 1 rfl) ?_
      refine lv_bipush (v := 11) hx hb dX1_gives_122 (by decide) ?_
      refine lv_iload_n hx hb dX1_gives_124 rfl (lv_at hl 3 rfl) ?_
      refine lv_iload hx hb dX1_gives_125 (lv_at hl 0 rfl) ?_
      have k_8 := (g_X1_gives_2 l D cI cB cQ z H.size h nw bo nw0 nw1 nw2 nw3 nw4 nw5 nw6 nw7 v1_0 nvi nro nwa nlz nds ndy nga npa 11 w v1_1 nfw nfo nfr nfn nft nfk nfa nfb nha (by omega) (by omega) (by omega) (by omega))
      refine wc_i (WC := [(h, .inr (1, [.ref nw, .ref bo, .int v1_0])), (bo, .inl (cI, 16, .inl v1_1)), (nw, .inr (3, [.int nvi, .int nro, .int nwa, .int nlz, .int nds, .int ndy, .int nga, .int npa, .ref nw0, .ref nw1, .ref nw2, .ref nw3, .ref nw4, .ref nw5, .ref nw6, .ref nw7])), (nw0, .inl (cI, 8, .inl nfw)), (nw1, .inl (cI, 8, .inl nfo)), (nw2, .inl (cI, 8, .inl nfr)), (nw3, .inl (cI, 8, .inl nfn)), (nw4, .inl (cI, 8, .inl nft)), (nw5, .inl (cI, 3, .inl nfk)), (nw6, .inl (cI, 3, .inl nfa)), (nw7, .inl (cI, 3, .inl nfb))]) (WR := []) (va_runV (As := [.int 11, .int w, .int 2]) (rest := []) ⟨hx, hb, hml, hown, hts⟩ k_8 (cwV 3 hts gX1_gives_X1_gives rfl rfl rfl (by decide +kernel) ⟨Nat.le_of_ble_eq_true rfl, Nat.le_of_ble_eq_true rfl⟩) (wpz_V hZ hS hAb hP hK hD hN [9, 10, 0, 1, 2, 3, 4, 5, 6, 7, 8] (by decide) rfl (ci := 1) rfl rfl) rfl rfl hl.1 rfl (lv_room (Nat.le_of_ble_eq_true rfl)) dX1_gives_127 ⟨Nat.le_of_ble_eq_true rfl, Nat.le_of_ble_eq_true rfl⟩) hP hD hS hA [9, 10, 0, 1, 2, 3, 4, 5, 6, 7, 8] [] rfl rfl (by decide) (by decide) (fun r_8 u_8 H locs hw_8 hP hD hS => ?_)
      clear k_8
      obtain ⟨v8_0, v8_1⟩ := u_8
      have hP : va_P D kl [(h, .inr (1, [.ref nw, .ref bo, .int v8_0])), (bo, .inl (cI, 16, .inl v8_1)), (nw, .inr (3, [.int nvi, .int nro, .int nwa, .int nlz, .int nds, .int ndy, .int nga, .int npa, .ref nw0, .ref nw1, .ref nw2, .ref nw3, .ref nw4, .ref nw5, .ref nw6, .ref nw7])), (nw0, .inl (cI, 8, .inl nfw)), (nw1, .inl (cI, 8, .inl nfo)), (nw2, .inl (cI, 8, .inl nfr)), (nw3, .inl (cI, 8, .inl nfn)), (nw4, .inl (cI, 8, .inl nft)), (nw5, .inl (cI, 3, .inl nfk)), (nw6, .inl (cI, 3, .inl nfa)), (nw7, .inl (cI, 3, .inl nfb))] H := hP
      have hD : va_D A [(h, .inr (1, [.ref nw, .ref bo, .int v8_0])), (bo, .inl (cI, 16, .inl v8_1)), (nw, .inr (3, [.int nvi, .int nro, .int nwa, .int nlz, .int nds, .int ndy, .int nga, .int npa, .ref nw0, .ref nw1, .ref nw2, .ref nw3, .ref nw4, .ref nw5, .ref nw6, .ref nw7])), (nw0, .inl (cI, 8, .inl nfw)), (nw1, .inl (cI, 8, .inl nfo)), (nw2, .inl (cI, 8, .inl nfr)), (nw3, .inl (cI, 8, .inl nfn)), (nw4, .inl (cI, 8, .inl nft)), (nw5, .inl (cI, 3, .inl nfk)), (nw6, .inl (cI, 3, .inl nfa)), (nw7, .inl (cI, 3, .inl nfb))] := hD
      have c8_0 := hw_8
      have c8_0 : 0 ≤ v8_0.toInt ∧ v8_0.toInt ≤ 16 := c8_0
      refine lv_ineg hx hb dX1_gives_130 ?_
      refine lv_topi (fun x_9 ex_9 => ?_)
      clear ex_9
      exact wr_i (v := x_9) hx hb hr hlocks hS (v8_0, v8_1) (by exact show 0 ≤ (v8_0 : Int32).toInt ∧ (v8_0 : Int32).toInt ≤ 16 from by omega) (hP.sub [0, 1, 2, 3, 4, 5, 6, 7, 8, 9, 10] rfl) (hD.sub [0, 1, 2, 3, 4, 5, 6, 7, 8, 9, 10] (by decide) rfl) dX1_gives_131
    · refine lv_tableIn (off := 113) (tgt := 132) hx hb dX1_gives_19 (by omega) (by omega) (by rw [g_3]; rfl) (by decide) ?_
      refine lv_aload_n hx hb dX1_gives_132 rfl (lv_at hl 1 rfl) ?_
      refine lv_bipush (v := 10) hx hb dX1_gives_133 (by decide) ?_
      refine lv_iload_n hx hb dX1_gives_135 rfl (lv_at hl 3 rfl) ?_
      refine lv_iload hx hb dX1_gives_136 (lv_at hl 0 rfl) ?_
      have k_10 := (g_X1_gives_2 l D cI cB cQ z H.size h nw bo nw0 nw1 nw2 nw3 nw4 nw5 nw6 nw7 v1_0 nvi nro nwa nlz nds ndy nga npa 10 w v1_1 nfw nfo nfr nfn nft nfk nfa nfb nha (by omega) (by omega) (by omega) (by omega))
      refine wc_i (WC := [(h, .inr (1, [.ref nw, .ref bo, .int v1_0])), (bo, .inl (cI, 16, .inl v1_1)), (nw, .inr (3, [.int nvi, .int nro, .int nwa, .int nlz, .int nds, .int ndy, .int nga, .int npa, .ref nw0, .ref nw1, .ref nw2, .ref nw3, .ref nw4, .ref nw5, .ref nw6, .ref nw7])), (nw0, .inl (cI, 8, .inl nfw)), (nw1, .inl (cI, 8, .inl nfo)), (nw2, .inl (cI, 8, .inl nfr)), (nw3, .inl (cI, 8, .inl nfn)), (nw4, .inl (cI, 8, .inl nft)), (nw5, .inl (cI, 3, .inl nfk)), (nw6, .inl (cI, 3, .inl nfa)), (nw7, .inl (cI, 3, .inl nfb))]) (WR := []) (va_runV (As := [.int 10, .int w, .int 2]) (rest := []) ⟨hx, hb, hml, hown, hts⟩ k_10 (cwV 3 hts gX1_gives_X1_gives rfl rfl rfl (by decide +kernel) ⟨Nat.le_of_ble_eq_true rfl, Nat.le_of_ble_eq_true rfl⟩) (wpz_V hZ hS hAb hP hK hD hN [9, 10, 0, 1, 2, 3, 4, 5, 6, 7, 8] (by decide) rfl (ci := 1) rfl rfl) rfl rfl hl.1 rfl (lv_room (Nat.le_of_ble_eq_true rfl)) dX1_gives_138 ⟨Nat.le_of_ble_eq_true rfl, Nat.le_of_ble_eq_true rfl⟩) hP hD hS hA [9, 10, 0, 1, 2, 3, 4, 5, 6, 7, 8] [] rfl rfl (by decide) (by decide) (fun r_10 u_10 H locs hw_10 hP hD hS => ?_)
      clear k_10
      obtain ⟨v10_0, v10_1⟩ := u_10
      have hP : va_P D kl [(h, .inr (1, [.ref nw, .ref bo, .int v10_0])), (bo, .inl (cI, 16, .inl v10_1)), (nw, .inr (3, [.int nvi, .int nro, .int nwa, .int nlz, .int nds, .int ndy, .int nga, .int npa, .ref nw0, .ref nw1, .ref nw2, .ref nw3, .ref nw4, .ref nw5, .ref nw6, .ref nw7])), (nw0, .inl (cI, 8, .inl nfw)), (nw1, .inl (cI, 8, .inl nfo)), (nw2, .inl (cI, 8, .inl nfr)), (nw3, .inl (cI, 8, .inl nfn)), (nw4, .inl (cI, 8, .inl nft)), (nw5, .inl (cI, 3, .inl nfk)), (nw6, .inl (cI, 3, .inl nfa)), (nw7, .inl (cI, 3, .inl nfb))] H := hP
      have hD : va_D A [(h, .inr (1, [.ref nw, .ref bo, .int v10_0])), (bo, .inl (cI, 16, .inl v10_1)), (nw, .inr (3, [.int nvi, .int nro, .int nwa, .int nlz, .int nds, .int ndy, .int nga, .int npa, .ref nw0, .ref nw1, .ref nw2, .ref nw3, .ref nw4, .ref nw5, .ref nw6, .ref nw7])), (nw0, .inl (cI, 8, .inl nfw)), (nw1, .inl (cI, 8, .inl nfo)), (nw2, .inl (cI, 8, .inl nfr)), (nw3, .inl (cI, 8, .inl nfn)), (nw4, .inl (cI, 8, .inl nft)), (nw5, .inl (cI, 3, .inl nfk)), (nw6, .inl (cI, 3, .inl nfa)), (nw7, .inl (cI, 3, .inl nfb))] := hD
      have c10_0 := hw_10
      have c10_0 : 0 ≤ v10_0.toInt ∧ v10_0.toInt ≤ 16 := c10_0
      refine lv_bipush (v := 100) hx hb dX1_gives_141 (by decide) ?_
      refine lv_isub hx hb dX1_gives_143 ?_
      refine lv_topi (fun x_11 ex_11 => ?_)
      clear ex_11
      exact wr_i (v := x_11) hx hb hr hlocks hS (v10_0, v10_1) (by exact show 0 ≤ (v10_0 : Int32).toInt ∧ (v10_0 : Int32).toInt ≤ 16 from by omega) (hP.sub [0, 1, 2, 3, 4, 5, 6, 7, 8, 9, 10] rfl) (hD.sub [0, 1, 2, 3, 4, 5, 6, 7, 8, 9, 10] (by decide) rfl) dX1_gives_144
    · refine lv_tableIn (off := 126) (tgt := 145) hx hb dX1_gives_19 (by omega) (by omega) (by rw [g_3]; rfl) (by decide) ?_
      refine lv_iconst (v := 2) hx hb dX1_gives_145 (by decide) ?_
      refine lv_aload_n hx hb dX1_gives_146 rfl (lv_at hl 1 rfl) ?_
      refine lv_bipush (v := 13) hx hb dX1_gives_147 (by decide) ?_
      refine lv_iload_n hx hb dX1_gives_149 rfl (lv_at hl 3 rfl) ?_
      refine lv_iload hx hb dX1_gives_150 (lv_at hl 0 rfl) ?_
      have k_12 := (g_X1_gives_2 l D cI cB cQ z H.size h nw bo nw0 nw1 nw2 nw3 nw4 nw5 nw6 nw7 v1_0 nvi nro nwa nlz nds ndy nga npa 13 w v1_1 nfw nfo nfr nfn nft nfk nfa nfb nha (by omega) (by omega) (by omega) (by omega))
      refine wc_i (WC := [(h, .inr (1, [.ref nw, .ref bo, .int v1_0])), (bo, .inl (cI, 16, .inl v1_1)), (nw, .inr (3, [.int nvi, .int nro, .int nwa, .int nlz, .int nds, .int ndy, .int nga, .int npa, .ref nw0, .ref nw1, .ref nw2, .ref nw3, .ref nw4, .ref nw5, .ref nw6, .ref nw7])), (nw0, .inl (cI, 8, .inl nfw)), (nw1, .inl (cI, 8, .inl nfo)), (nw2, .inl (cI, 8, .inl nfr)), (nw3, .inl (cI, 8, .inl nfn)), (nw4, .inl (cI, 8, .inl nft)), (nw5, .inl (cI, 3, .inl nfk)), (nw6, .inl (cI, 3, .inl nfa)), (nw7, .inl (cI, 3, .inl nfb))]) (WR := []) (va_runV (As := [.int 13, .int w, .int 2]) (rest := [.int 2]) ⟨hx, hb, hml, hown, hts⟩ k_12 (cwV 3 hts gX1_gives_X1_gives rfl rfl rfl (by decide +kernel) ⟨Nat.le_of_ble_eq_true rfl, Nat.le_of_ble_eq_true rfl⟩) (wpz_V hZ hS hAb hP hK hD hN [9, 10, 0, 1, 2, 3, 4, 5, 6, 7, 8] (by decide) rfl (ci := 1) rfl rfl) rfl rfl hl.1 rfl (lv_room (Nat.le_of_ble_eq_true rfl)) dX1_gives_152 ⟨Nat.le_of_ble_eq_true rfl, Nat.le_of_ble_eq_true rfl⟩) hP hD hS hA [9, 10, 0, 1, 2, 3, 4, 5, 6, 7, 8] [] rfl rfl (by decide) (by decide) (fun r_12 u_12 H locs hw_12 hP hD hS => ?_)
      clear k_12
      obtain ⟨v12_0, v12_1⟩ := u_12
      have hP : va_P D kl [(h, .inr (1, [.ref nw, .ref bo, .int v12_0])), (bo, .inl (cI, 16, .inl v12_1)), (nw, .inr (3, [.int nvi, .int nro, .int nwa, .int nlz, .int nds, .int ndy, .int nga, .int npa, .ref nw0, .ref nw1, .ref nw2, .ref nw3, .ref nw4, .ref nw5, .ref nw6, .ref nw7])), (nw0, .inl (cI, 8, .inl nfw)), (nw1, .inl (cI, 8, .inl nfo)), (nw2, .inl (cI, 8, .inl nfr)), (nw3, .inl (cI, 8, .inl nfn)), (nw4, .inl (cI, 8, .inl nft)), (nw5, .inl (cI, 3, .inl nfk)), (nw6, .inl (cI, 3, .inl nfa)), (nw7, .inl (cI, 3, .inl nfb))] H := hP
      have hD : va_D A [(h, .inr (1, [.ref nw, .ref bo, .int v12_0])), (bo, .inl (cI, 16, .inl v12_1)), (nw, .inr (3, [.int nvi, .int nro, .int nwa, .int nlz, .int nds, .int ndy, .int nga, .int npa, .ref nw0, .ref nw1, .ref nw2, .ref nw3, .ref nw4, .ref nw5, .ref nw6, .ref nw7])), (nw0, .inl (cI, 8, .inl nfw)), (nw1, .inl (cI, 8, .inl nfo)), (nw2, .inl (cI, 8, .inl nfr)), (nw3, .inl (cI, 8, .inl nfn)), (nw4, .inl (cI, 8, .inl nft)), (nw5, .inl (cI, 3, .inl nfk)), (nw6, .inl (cI, 3, .inl nfa)), (nw7, .inl (cI, 3, .inl nfb))] := hD
      have c12_0 := hw_12
      have c12_0 : 0 ≤ v12_0.toInt ∧ v12_0.toInt ≤ 16 := c12_0
      refine lv_imul hx hb dX1_gives_155 ?_
      refine lv_topi (fun x_13 ex_13 => ?_)
      clear ex_13
      exact wr_i (v := x_13) hx hb hr hlocks hS (v12_0, v12_1) (by exact show 0 ≤ (v12_0 : Int32).toInt ∧ (v12_0 : Int32).toInt ≤ 16 from by omega) (hP.sub [0, 1, 2, 3, 4, 5, 6, 7, 8, 9, 10] rfl) (hD.sub [0, 1, 2, 3, 4, 5, 6, 7, 8, 9, 10] (by decide) rfl) dX1_gives_156
    · refine lv_tableIn (off := 213) (tgt := 232) hx hb dX1_gives_19 (by omega) (by omega) (by rw [g_3]; rfl) (by decide) ?_
      refine lv_iconst (v := 0) hx hb dX1_gives_232 (by decide) ?_
      exact wr_i (v := 0) hx hb hr hlocks hS (v1_0, v1_1) (by exact show 0 ≤ (v1_0 : Int32).toInt ∧ (v1_0 : Int32).toInt ≤ 16 from by omega) (hP.sub [9, 10, 0, 1, 2, 3, 4, 5, 6, 7, 8] rfl) (hD.sub [9, 10, 0, 1, 2, 3, 4, 5, 6, 7, 8] (by decide) rfl) dX1_gives_233
    · refine lv_tableIn (off := 213) (tgt := 232) hx hb dX1_gives_19 (by omega) (by omega) (by rw [g_3]; rfl) (by decide) ?_
      refine lv_iconst (v := 0) hx hb dX1_gives_232 (by decide) ?_
      exact wr_i (v := 0) hx hb hr hlocks hS (v1_0, v1_1) (by exact show 0 ≤ (v1_0 : Int32).toInt ∧ (v1_0 : Int32).toInt ≤ 16 from by omega) (hP.sub [9, 10, 0, 1, 2, 3, 4, 5, 6, 7, 8] rfl) (hD.sub [9, 10, 0, 1, 2, 3, 4, 5, 6, 7, 8] (by decide) rfl) dX1_gives_233
    · refine lv_tableIn (off := 213) (tgt := 232) hx hb dX1_gives_19 (by omega) (by omega) (by rw [g_3]; rfl) (by decide) ?_
      refine lv_iconst (v := 0) hx hb dX1_gives_232 (by decide) ?_
      exact wr_i (v := 0) hx hb hr hlocks hS (v1_0, v1_1) (by exact show 0 ≤ (v1_0 : Int32).toInt ∧ (v1_0 : Int32).toInt ≤ 16 from by omega) (hP.sub [9, 10, 0, 1, 2, 3, 4, 5, 6, 7, 8] rfl) (hD.sub [9, 10, 0, 1, 2, 3, 4, 5, 6, 7, 8] (by decide) rfl) dX1_gives_233
    · refine lv_tableIn (off := 213) (tgt := 232) hx hb dX1_gives_19 (by omega) (by omega) (by rw [g_3]; rfl) (by decide) ?_
      refine lv_iconst (v := 0) hx hb dX1_gives_232 (by decide) ?_
      exact wr_i (v := 0) hx hb hr hlocks hS (v1_0, v1_1) (by exact show 0 ≤ (v1_0 : Int32).toInt ∧ (v1_0 : Int32).toInt ≤ 16 from by omega) (hP.sub [9, 10, 0, 1, 2, 3, 4, 5, 6, 7, 8] rfl) (hD.sub [9, 10, 0, 1, 2, 3, 4, 5, 6, 7, 8] (by decide) rfl) dX1_gives_233
    · refine lv_tableIn (off := 213) (tgt := 232) hx hb dX1_gives_19 (by omega) (by omega) (by rw [g_3]; rfl) (by decide) ?_
      refine lv_iconst (v := 0) hx hb dX1_gives_232 (by decide) ?_
      exact wr_i (v := 0) hx hb hr hlocks hS (v1_0, v1_1) (by exact show 0 ≤ (v1_0 : Int32).toInt ∧ (v1_0 : Int32).toInt ≤ 16 from by omega) (hP.sub [9, 10, 0, 1, 2, 3, 4, 5, 6, 7, 8] rfl) (hD.sub [9, 10, 0, 1, 2, 3, 4, 5, 6, 7, 8] (by decide) rfl) dX1_gives_233
    · refine lv_tableIn (off := 138) (tgt := 157) hx hb dX1_gives_19 (by omega) (by omega) (by rw [g_3]; rfl) (by decide) ?_
      refine lv_iload_n hx hb dX1_gives_157 rfl (lv_at hl 3 rfl) ?_
      exact wr_i (v := w) hx hb hr hlocks hS (v1_0, v1_1) (by exact show 0 ≤ (v1_0 : Int32).toInt ∧ (v1_0 : Int32).toInt ≤ 16 from by omega) (hP.sub [9, 10, 0, 1, 2, 3, 4, 5, 6, 7, 8] rfl) (hD.sub [9, 10, 0, 1, 2, 3, 4, 5, 6, 7, 8] (by decide) rfl) dX1_gives_158
    · refine lv_tableIn (off := 140) (tgt := 159) hx hb dX1_gives_19 (by omega) (by omega) (by rw [g_3]; rfl) (by decide) ?_
      refine lv_aload_n hx hb dX1_gives_159 rfl (lv_at hl 1 rfl) ?_
      refine lv_bipush (v := 20) hx hb dX1_gives_160 (by decide) ?_
      refine lv_iload_n hx hb dX1_gives_162 rfl (lv_at hl 3 rfl) ?_
      refine lv_iload hx hb dX1_gives_163 (lv_at hl 0 rfl) ?_
      have k_14 := (g_X1_gives_2 l D cI cB cQ z H.size h nw bo nw0 nw1 nw2 nw3 nw4 nw5 nw6 nw7 v1_0 nvi nro nwa nlz nds ndy nga npa 20 w v1_1 nfw nfo nfr nfn nft nfk nfa nfb nha (by omega) (by omega) (by omega) (by omega))
      refine wc_i (WC := [(h, .inr (1, [.ref nw, .ref bo, .int v1_0])), (bo, .inl (cI, 16, .inl v1_1)), (nw, .inr (3, [.int nvi, .int nro, .int nwa, .int nlz, .int nds, .int ndy, .int nga, .int npa, .ref nw0, .ref nw1, .ref nw2, .ref nw3, .ref nw4, .ref nw5, .ref nw6, .ref nw7])), (nw0, .inl (cI, 8, .inl nfw)), (nw1, .inl (cI, 8, .inl nfo)), (nw2, .inl (cI, 8, .inl nfr)), (nw3, .inl (cI, 8, .inl nfn)), (nw4, .inl (cI, 8, .inl nft)), (nw5, .inl (cI, 3, .inl nfk)), (nw6, .inl (cI, 3, .inl nfa)), (nw7, .inl (cI, 3, .inl nfb))]) (WR := []) (va_runV (As := [.int 20, .int w, .int 2]) (rest := []) ⟨hx, hb, hml, hown, hts⟩ k_14 (cwV 3 hts gX1_gives_X1_gives rfl rfl rfl (by decide +kernel) ⟨Nat.le_of_ble_eq_true rfl, Nat.le_of_ble_eq_true rfl⟩) (wpz_V hZ hS hAb hP hK hD hN [9, 10, 0, 1, 2, 3, 4, 5, 6, 7, 8] (by decide) rfl (ci := 1) rfl rfl) rfl rfl hl.1 rfl (lv_room (Nat.le_of_ble_eq_true rfl)) dX1_gives_165 ⟨Nat.le_of_ble_eq_true rfl, Nat.le_of_ble_eq_true rfl⟩) hP hD hS hA [9, 10, 0, 1, 2, 3, 4, 5, 6, 7, 8] [] rfl rfl (by decide) (by decide) (fun r_14 u_14 H locs hw_14 hP hD hS => ?_)
      clear k_14
      obtain ⟨v14_0, v14_1⟩ := u_14
      have hP : va_P D kl [(h, .inr (1, [.ref nw, .ref bo, .int v14_0])), (bo, .inl (cI, 16, .inl v14_1)), (nw, .inr (3, [.int nvi, .int nro, .int nwa, .int nlz, .int nds, .int ndy, .int nga, .int npa, .ref nw0, .ref nw1, .ref nw2, .ref nw3, .ref nw4, .ref nw5, .ref nw6, .ref nw7])), (nw0, .inl (cI, 8, .inl nfw)), (nw1, .inl (cI, 8, .inl nfo)), (nw2, .inl (cI, 8, .inl nfr)), (nw3, .inl (cI, 8, .inl nfn)), (nw4, .inl (cI, 8, .inl nft)), (nw5, .inl (cI, 3, .inl nfk)), (nw6, .inl (cI, 3, .inl nfa)), (nw7, .inl (cI, 3, .inl nfb))] H := hP
      have hD : va_D A [(h, .inr (1, [.ref nw, .ref bo, .int v14_0])), (bo, .inl (cI, 16, .inl v14_1)), (nw, .inr (3, [.int nvi, .int nro, .int nwa, .int nlz, .int nds, .int ndy, .int nga, .int npa, .ref nw0, .ref nw1, .ref nw2, .ref nw3, .ref nw4, .ref nw5, .ref nw6, .ref nw7])), (nw0, .inl (cI, 8, .inl nfw)), (nw1, .inl (cI, 8, .inl nfo)), (nw2, .inl (cI, 8, .inl nfr)), (nw3, .inl (cI, 8, .inl nfn)), (nw4, .inl (cI, 8, .inl nft)), (nw5, .inl (cI, 3, .inl nfk)), (nw6, .inl (cI, 3, .inl nfa)), (nw7, .inl (cI, 3, .inl nfb))] := hD
      have c14_0 := hw_14
      have c14_0 : 0 ≤ v14_0.toInt ∧ v14_0.toInt ≤ 16 := c14_0
      refine lv_aload_n hx hb dX1_gives_168 rfl (lv_at hl 1 rfl) ?_
      refine va_get (D := D) (ci := 1) (v := .ref nw) (C := RX1) (T := TX1) (N := 3) hx hb hts (fun _ h => List.mem_cons_of_mem _ (List.mem_append_left _ (List.mem_append_right _ h))) hown hK hP 0 rfl rfl 0 (by decide) (hts (.fieldLink RX1 19 "WinterWalk$Asks" "land" "LWinterWalk$Land;") (List.mem_of_getElem? (i := 1) rfl)) (fun _ h9 => h9) rfl dX1_gives_169 ?_
      refine va_get (D := D) (ci := 3) (v := .ref nw1) (C := RX4) (T := TX4) (N := 16) hx hb hts (fun _ h => List.mem_cons_of_mem _ (List.mem_append_right _ h)) hown hK hP 2 rfl rfl 9 (by decide) (hts (.fieldLink RX1 62 "WinterWalk$Land" "offers" "[I") (List.mem_of_getElem? (i := 3) rfl)) (fun _ h9 => h9) rfl dX1_gives_172 ?_
      refine lv_aload_n hx hb dX1_gives_175 rfl (lv_at hl 1 rfl) ?_
      refine va_get (D := D) (ci := 1) (v := .ref nw) (C := RX1) (T := TX1) (N := 3) hx hb hts (fun _ h => List.mem_cons_of_mem _ (List.mem_append_left _ (List.mem_append_right _ h))) hown hK hP 0 rfl rfl 0 (by decide) (hts (.fieldLink RX1 19 "WinterWalk$Asks" "land" "LWinterWalk$Land;") (List.mem_of_getElem? (i := 1) rfl)) (fun _ h9 => h9) rfl dX1_gives_176 ?_
      refine va_get (D := D) (ci := 3) (v := .ref nw6) (C := RX4) (T := TX4) (N := 16) hx hb hts (fun _ h => List.mem_cons_of_mem _ (List.mem_append_right _ h)) hown hK hP 2 rfl rfl 14 (by decide) (hts (.fieldLink RX1 59 "WinterWalk$Land" "at" "[I") (List.mem_of_getElem? (i := 2) rfl)) (fun _ h9 => h9) rfl dX1_gives_179 ?_
      refine lv_iload_n hx hb dX1_gives_182 rfl (lv_at hl 3 rfl) ?_
      refine va_iald hx hb hK hP 9 0 rfl rfl (zi_in (by omega) (by omega)) dX1_gives_183 ?_
      refine lv_topi (fun x_15 ex_15 => ?_)
      have f_15 : 0 ≤ x_15.toInt ∧ x_15.toInt ≤ 7 := by rw [ex_15]; exact nha _ (zi_cl (by omega) (by omega))
      clear ex_15
      refine va_iald hx hb hK hP 4 0 rfl rfl (zi_in (by omega) (by omega)) dX1_gives_184 ?_
      refine lv_topi (fun x_16 ex_16 => ?_)
      clear ex_16
      refine lv_iadd hx hb dX1_gives_185 ?_
      refine lv_topi (fun x_17 ex_17 => ?_)
      clear ex_17
      exact wr_i (v := x_17) hx hb hr hlocks hS (v14_0, v14_1) (by exact show 0 ≤ (v14_0 : Int32).toInt ∧ (v14_0 : Int32).toInt ≤ 16 from by omega) (hP.sub [0, 1, 2, 3, 4, 5, 6, 7, 8, 9, 10] rfl) (hD.sub [0, 1, 2, 3, 4, 5, 6, 7, 8, 9, 10] (by decide) rfl) dX1_gives_186
    · refine lv_tableIn (off := 168) (tgt := 187) hx hb dX1_gives_19 (by omega) (by omega) (by rw [g_3]; rfl) (by decide) ?_
      refine lv_aload_n hx hb dX1_gives_187 rfl (lv_at hl 1 rfl) ?_
      refine lv_bipush (v := 21) hx hb dX1_gives_188 (by decide) ?_
      refine lv_iload_n hx hb dX1_gives_190 rfl (lv_at hl 3 rfl) ?_
      refine lv_iload hx hb dX1_gives_191 (lv_at hl 0 rfl) ?_
      have k_18 := (g_X1_gives_2 l D cI cB cQ z H.size h nw bo nw0 nw1 nw2 nw3 nw4 nw5 nw6 nw7 v1_0 nvi nro nwa nlz nds ndy nga npa 21 w v1_1 nfw nfo nfr nfn nft nfk nfa nfb nha (by omega) (by omega) (by omega) (by omega))
      refine wc_i (WC := [(h, .inr (1, [.ref nw, .ref bo, .int v1_0])), (bo, .inl (cI, 16, .inl v1_1)), (nw, .inr (3, [.int nvi, .int nro, .int nwa, .int nlz, .int nds, .int ndy, .int nga, .int npa, .ref nw0, .ref nw1, .ref nw2, .ref nw3, .ref nw4, .ref nw5, .ref nw6, .ref nw7])), (nw0, .inl (cI, 8, .inl nfw)), (nw1, .inl (cI, 8, .inl nfo)), (nw2, .inl (cI, 8, .inl nfr)), (nw3, .inl (cI, 8, .inl nfn)), (nw4, .inl (cI, 8, .inl nft)), (nw5, .inl (cI, 3, .inl nfk)), (nw6, .inl (cI, 3, .inl nfa)), (nw7, .inl (cI, 3, .inl nfb))]) (WR := []) (va_runV (As := [.int 21, .int w, .int 2]) (rest := []) ⟨hx, hb, hml, hown, hts⟩ k_18 (cwV 3 hts gX1_gives_X1_gives rfl rfl rfl (by decide +kernel) ⟨Nat.le_of_ble_eq_true rfl, Nat.le_of_ble_eq_true rfl⟩) (wpz_V hZ hS hAb hP hK hD hN [9, 10, 0, 1, 2, 3, 4, 5, 6, 7, 8] (by decide) rfl (ci := 1) rfl rfl) rfl rfl hl.1 rfl (lv_room (Nat.le_of_ble_eq_true rfl)) dX1_gives_193 ⟨Nat.le_of_ble_eq_true rfl, Nat.le_of_ble_eq_true rfl⟩) hP hD hS hA [9, 10, 0, 1, 2, 3, 4, 5, 6, 7, 8] [] rfl rfl (by decide) (by decide) (fun r_18 u_18 H locs hw_18 hP hD hS => ?_)
      clear k_18
      obtain ⟨v18_0, v18_1⟩ := u_18
      have hP : va_P D kl [(h, .inr (1, [.ref nw, .ref bo, .int v18_0])), (bo, .inl (cI, 16, .inl v18_1)), (nw, .inr (3, [.int nvi, .int nro, .int nwa, .int nlz, .int nds, .int ndy, .int nga, .int npa, .ref nw0, .ref nw1, .ref nw2, .ref nw3, .ref nw4, .ref nw5, .ref nw6, .ref nw7])), (nw0, .inl (cI, 8, .inl nfw)), (nw1, .inl (cI, 8, .inl nfo)), (nw2, .inl (cI, 8, .inl nfr)), (nw3, .inl (cI, 8, .inl nfn)), (nw4, .inl (cI, 8, .inl nft)), (nw5, .inl (cI, 3, .inl nfk)), (nw6, .inl (cI, 3, .inl nfa)), (nw7, .inl (cI, 3, .inl nfb))] H := hP
      have hD : va_D A [(h, .inr (1, [.ref nw, .ref bo, .int v18_0])), (bo, .inl (cI, 16, .inl v18_1)), (nw, .inr (3, [.int nvi, .int nro, .int nwa, .int nlz, .int nds, .int ndy, .int nga, .int npa, .ref nw0, .ref nw1, .ref nw2, .ref nw3, .ref nw4, .ref nw5, .ref nw6, .ref nw7])), (nw0, .inl (cI, 8, .inl nfw)), (nw1, .inl (cI, 8, .inl nfo)), (nw2, .inl (cI, 8, .inl nfr)), (nw3, .inl (cI, 8, .inl nfn)), (nw4, .inl (cI, 8, .inl nft)), (nw5, .inl (cI, 3, .inl nfk)), (nw6, .inl (cI, 3, .inl nfa)), (nw7, .inl (cI, 3, .inl nfb))] := hD
      have c18_0 := hw_18
      have c18_0 : 0 ≤ v18_0.toInt ∧ v18_0.toInt ≤ 16 := c18_0
      refine lv_sipush (v := 1000) hx hb dX1_gives_196 (by decide) ?_
      refine lv_isub hx hb dX1_gives_199 ?_
      refine lv_topi (fun x_19 ex_19 => ?_)
      clear ex_19
      exact wr_i (v := x_19) hx hb hr hlocks hS (v18_0, v18_1) (by exact show 0 ≤ (v18_0 : Int32).toInt ∧ (v18_0 : Int32).toInt ≤ 16 from by omega) (hP.sub [0, 1, 2, 3, 4, 5, 6, 7, 8, 9, 10] rfl) (hD.sub [0, 1, 2, 3, 4, 5, 6, 7, 8, 9, 10] (by decide) rfl) dX1_gives_200
    · refine lv_tableIn (off := 182) (tgt := 201) hx hb dX1_gives_19 (by omega) (by omega) (by rw [g_3]; rfl) (by decide) ?_
      refine lv_aload_n hx hb dX1_gives_201 rfl (lv_at hl 1 rfl) ?_
      refine lv_bipush (v := 20) hx hb dX1_gives_202 (by decide) ?_
      refine lv_iload_n hx hb dX1_gives_204 rfl (lv_at hl 3 rfl) ?_
      refine lv_iload hx hb dX1_gives_205 (lv_at hl 0 rfl) ?_
      have k_20 := (g_X1_gives_2 l D cI cB cQ z H.size h nw bo nw0 nw1 nw2 nw3 nw4 nw5 nw6 nw7 v1_0 nvi nro nwa nlz nds ndy nga npa 20 w v1_1 nfw nfo nfr nfn nft nfk nfa nfb nha (by omega) (by omega) (by omega) (by omega))
      refine wc_i (WC := [(h, .inr (1, [.ref nw, .ref bo, .int v1_0])), (bo, .inl (cI, 16, .inl v1_1)), (nw, .inr (3, [.int nvi, .int nro, .int nwa, .int nlz, .int nds, .int ndy, .int nga, .int npa, .ref nw0, .ref nw1, .ref nw2, .ref nw3, .ref nw4, .ref nw5, .ref nw6, .ref nw7])), (nw0, .inl (cI, 8, .inl nfw)), (nw1, .inl (cI, 8, .inl nfo)), (nw2, .inl (cI, 8, .inl nfr)), (nw3, .inl (cI, 8, .inl nfn)), (nw4, .inl (cI, 8, .inl nft)), (nw5, .inl (cI, 3, .inl nfk)), (nw6, .inl (cI, 3, .inl nfa)), (nw7, .inl (cI, 3, .inl nfb))]) (WR := []) (va_runV (As := [.int 20, .int w, .int 2]) (rest := []) ⟨hx, hb, hml, hown, hts⟩ k_20 (cwV 3 hts gX1_gives_X1_gives rfl rfl rfl (by decide +kernel) ⟨Nat.le_of_ble_eq_true rfl, Nat.le_of_ble_eq_true rfl⟩) (wpz_V hZ hS hAb hP hK hD hN [9, 10, 0, 1, 2, 3, 4, 5, 6, 7, 8] (by decide) rfl (ci := 1) rfl rfl) rfl rfl hl.1 rfl (lv_room (Nat.le_of_ble_eq_true rfl)) dX1_gives_207 ⟨Nat.le_of_ble_eq_true rfl, Nat.le_of_ble_eq_true rfl⟩) hP hD hS hA [9, 10, 0, 1, 2, 3, 4, 5, 6, 7, 8] [] rfl rfl (by decide) (by decide) (fun r_20 u_20 H locs hw_20 hP hD hS => ?_)
      clear k_20
      obtain ⟨v20_0, v20_1⟩ := u_20
      have hP : va_P D kl [(h, .inr (1, [.ref nw, .ref bo, .int v20_0])), (bo, .inl (cI, 16, .inl v20_1)), (nw, .inr (3, [.int nvi, .int nro, .int nwa, .int nlz, .int nds, .int ndy, .int nga, .int npa, .ref nw0, .ref nw1, .ref nw2, .ref nw3, .ref nw4, .ref nw5, .ref nw6, .ref nw7])), (nw0, .inl (cI, 8, .inl nfw)), (nw1, .inl (cI, 8, .inl nfo)), (nw2, .inl (cI, 8, .inl nfr)), (nw3, .inl (cI, 8, .inl nfn)), (nw4, .inl (cI, 8, .inl nft)), (nw5, .inl (cI, 3, .inl nfk)), (nw6, .inl (cI, 3, .inl nfa)), (nw7, .inl (cI, 3, .inl nfb))] H := hP
      have hD : va_D A [(h, .inr (1, [.ref nw, .ref bo, .int v20_0])), (bo, .inl (cI, 16, .inl v20_1)), (nw, .inr (3, [.int nvi, .int nro, .int nwa, .int nlz, .int nds, .int ndy, .int nga, .int npa, .ref nw0, .ref nw1, .ref nw2, .ref nw3, .ref nw4, .ref nw5, .ref nw6, .ref nw7])), (nw0, .inl (cI, 8, .inl nfw)), (nw1, .inl (cI, 8, .inl nfo)), (nw2, .inl (cI, 8, .inl nfr)), (nw3, .inl (cI, 8, .inl nfn)), (nw4, .inl (cI, 8, .inl nft)), (nw5, .inl (cI, 3, .inl nfk)), (nw6, .inl (cI, 3, .inl nfa)), (nw7, .inl (cI, 3, .inl nfb))] := hD
      have c20_0 := hw_20
      have c20_0 : 0 ≤ v20_0.toInt ∧ v20_0.toInt ≤ 16 := c20_0
      refine lv_aload_n hx hb dX1_gives_210 rfl (lv_at hl 1 rfl) ?_
      refine lv_iload_n hx hb dX1_gives_211 rfl (lv_at hl 3 rfl) ?_
      refine lv_iconst (v := 0) hx hb dX1_gives_212 (by decide) ?_
      refine lv_iload hx hb dX1_gives_213 (lv_at hl 0 rfl) ?_
      have k_21 := (g_X1_asked_2 l D cI cB cQ z H.size h nw bo nw0 nw1 nw2 nw3 nw4 nw5 nw6 nw7 v20_0 nvi nro nwa nlz nds ndy nga npa w 0 v20_1 nfw nfo nfr nfn nft nfk nfa nfb nha (by omega) (by omega) (by omega) (by omega))
      refine wc_i (WC := [(h, .inr (1, [.ref nw, .ref bo, .int v20_0])), (bo, .inl (cI, 16, .inl v20_1)), (nw, .inr (3, [.int nvi, .int nro, .int nwa, .int nlz, .int nds, .int ndy, .int nga, .int npa, .ref nw0, .ref nw1, .ref nw2, .ref nw3, .ref nw4, .ref nw5, .ref nw6, .ref nw7])), (nw0, .inl (cI, 8, .inl nfw)), (nw1, .inl (cI, 8, .inl nfo)), (nw2, .inl (cI, 8, .inl nfr)), (nw3, .inl (cI, 8, .inl nfn)), (nw4, .inl (cI, 8, .inl nft)), (nw5, .inl (cI, 3, .inl nfk)), (nw6, .inl (cI, 3, .inl nfa)), (nw7, .inl (cI, 3, .inl nfb))]) (WR := []) (va_runV (As := [.int w, .int 0, .int 2]) (rest := [.int r_20]) ⟨hx, hb, hml, hown, hts⟩ k_21 (cwV 3 hts gX1_gives_X1_asked rfl rfl rfl (by decide +kernel) ⟨Nat.le_of_ble_eq_true rfl, Nat.le_of_ble_eq_true rfl⟩) (wpz_V hZ hS hAb hP hK hD hN [0, 1, 2, 3, 4, 5, 6, 7, 8, 9, 10] (by decide) rfl (ci := 1) rfl rfl) rfl rfl hl.1 rfl (lv_room (Nat.le_of_ble_eq_true rfl)) dX1_gives_215 ⟨Nat.le_of_ble_eq_true rfl, Nat.le_of_ble_eq_true rfl⟩) hP hD hS hA [0, 1, 2, 3, 4, 5, 6, 7, 8, 9, 10] [] rfl rfl (by decide) (by decide) (fun r_21 u_21 H locs hw_21 hP hD hS => ?_)
      clear k_21
      obtain ⟨v21_0, v21_1⟩ := u_21
      have hP : va_P D kl [(h, .inr (1, [.ref nw, .ref bo, .int v21_0])), (bo, .inl (cI, 16, .inl v21_1)), (nw, .inr (3, [.int nvi, .int nro, .int nwa, .int nlz, .int nds, .int ndy, .int nga, .int npa, .ref nw0, .ref nw1, .ref nw2, .ref nw3, .ref nw4, .ref nw5, .ref nw6, .ref nw7])), (nw0, .inl (cI, 8, .inl nfw)), (nw1, .inl (cI, 8, .inl nfo)), (nw2, .inl (cI, 8, .inl nfr)), (nw3, .inl (cI, 8, .inl nfn)), (nw4, .inl (cI, 8, .inl nft)), (nw5, .inl (cI, 3, .inl nfk)), (nw6, .inl (cI, 3, .inl nfa)), (nw7, .inl (cI, 3, .inl nfb))] H := hP
      have hD : va_D A [(h, .inr (1, [.ref nw, .ref bo, .int v21_0])), (bo, .inl (cI, 16, .inl v21_1)), (nw, .inr (3, [.int nvi, .int nro, .int nwa, .int nlz, .int nds, .int ndy, .int nga, .int npa, .ref nw0, .ref nw1, .ref nw2, .ref nw3, .ref nw4, .ref nw5, .ref nw6, .ref nw7])), (nw0, .inl (cI, 8, .inl nfw)), (nw1, .inl (cI, 8, .inl nfo)), (nw2, .inl (cI, 8, .inl nfr)), (nw3, .inl (cI, 8, .inl nfn)), (nw4, .inl (cI, 8, .inl nft)), (nw5, .inl (cI, 3, .inl nfk)), (nw6, .inl (cI, 3, .inl nfa)), (nw7, .inl (cI, 3, .inl nfb))] := hD
      have c21_0 := hw_21
      have c21_0 : 0 ≤ v21_0.toInt ∧ v21_0.toInt ≤ 16 := c21_0
      refine lv_isub hx hb dX1_gives_218 ?_
      refine lv_topi (fun x_22 ex_22 => ?_)
      clear ex_22
      exact wr_i (v := x_22) hx hb hr hlocks hS (v21_0, v21_1) (by exact show 0 ≤ (v21_0 : Int32).toInt ∧ (v21_0 : Int32).toInt ≤ 16 from by omega) (hP.sub [0, 1, 2, 3, 4, 5, 6, 7, 8, 9, 10] rfl) (hD.sub [0, 1, 2, 3, 4, 5, 6, 7, 8, 9, 10] (by decide) rfl) dX1_gives_219
    · refine lv_tableIn (off := 201) (tgt := 220) hx hb dX1_gives_19 (by omega) (by omega) (by rw [g_3]; rfl) (by decide) ?_
      refine lv_iconst (v := 2) hx hb dX1_gives_220 (by decide) ?_
      refine lv_aload_n hx hb dX1_gives_221 rfl (lv_at hl 1 rfl) ?_
      refine lv_bipush (v := 21) hx hb dX1_gives_222 (by decide) ?_
      refine lv_iload_n hx hb dX1_gives_224 rfl (lv_at hl 3 rfl) ?_
      refine lv_iload hx hb dX1_gives_225 (lv_at hl 0 rfl) ?_
      have k_23 := (g_X1_gives_2 l D cI cB cQ z H.size h nw bo nw0 nw1 nw2 nw3 nw4 nw5 nw6 nw7 v1_0 nvi nro nwa nlz nds ndy nga npa 21 w v1_1 nfw nfo nfr nfn nft nfk nfa nfb nha (by omega) (by omega) (by omega) (by omega))
      refine wc_i (WC := [(h, .inr (1, [.ref nw, .ref bo, .int v1_0])), (bo, .inl (cI, 16, .inl v1_1)), (nw, .inr (3, [.int nvi, .int nro, .int nwa, .int nlz, .int nds, .int ndy, .int nga, .int npa, .ref nw0, .ref nw1, .ref nw2, .ref nw3, .ref nw4, .ref nw5, .ref nw6, .ref nw7])), (nw0, .inl (cI, 8, .inl nfw)), (nw1, .inl (cI, 8, .inl nfo)), (nw2, .inl (cI, 8, .inl nfr)), (nw3, .inl (cI, 8, .inl nfn)), (nw4, .inl (cI, 8, .inl nft)), (nw5, .inl (cI, 3, .inl nfk)), (nw6, .inl (cI, 3, .inl nfa)), (nw7, .inl (cI, 3, .inl nfb))]) (WR := []) (va_runV (As := [.int 21, .int w, .int 2]) (rest := [.int 2]) ⟨hx, hb, hml, hown, hts⟩ k_23 (cwV 3 hts gX1_gives_X1_gives rfl rfl rfl (by decide +kernel) ⟨Nat.le_of_ble_eq_true rfl, Nat.le_of_ble_eq_true rfl⟩) (wpz_V hZ hS hAb hP hK hD hN [9, 10, 0, 1, 2, 3, 4, 5, 6, 7, 8] (by decide) rfl (ci := 1) rfl rfl) rfl rfl hl.1 rfl (lv_room (Nat.le_of_ble_eq_true rfl)) dX1_gives_227 ⟨Nat.le_of_ble_eq_true rfl, Nat.le_of_ble_eq_true rfl⟩) hP hD hS hA [9, 10, 0, 1, 2, 3, 4, 5, 6, 7, 8] [] rfl rfl (by decide) (by decide) (fun r_23 u_23 H locs hw_23 hP hD hS => ?_)
      clear k_23
      obtain ⟨v23_0, v23_1⟩ := u_23
      have hP : va_P D kl [(h, .inr (1, [.ref nw, .ref bo, .int v23_0])), (bo, .inl (cI, 16, .inl v23_1)), (nw, .inr (3, [.int nvi, .int nro, .int nwa, .int nlz, .int nds, .int ndy, .int nga, .int npa, .ref nw0, .ref nw1, .ref nw2, .ref nw3, .ref nw4, .ref nw5, .ref nw6, .ref nw7])), (nw0, .inl (cI, 8, .inl nfw)), (nw1, .inl (cI, 8, .inl nfo)), (nw2, .inl (cI, 8, .inl nfr)), (nw3, .inl (cI, 8, .inl nfn)), (nw4, .inl (cI, 8, .inl nft)), (nw5, .inl (cI, 3, .inl nfk)), (nw6, .inl (cI, 3, .inl nfa)), (nw7, .inl (cI, 3, .inl nfb))] H := hP
      have hD : va_D A [(h, .inr (1, [.ref nw, .ref bo, .int v23_0])), (bo, .inl (cI, 16, .inl v23_1)), (nw, .inr (3, [.int nvi, .int nro, .int nwa, .int nlz, .int nds, .int ndy, .int nga, .int npa, .ref nw0, .ref nw1, .ref nw2, .ref nw3, .ref nw4, .ref nw5, .ref nw6, .ref nw7])), (nw0, .inl (cI, 8, .inl nfw)), (nw1, .inl (cI, 8, .inl nfo)), (nw2, .inl (cI, 8, .inl nfr)), (nw3, .inl (cI, 8, .inl nfn)), (nw4, .inl (cI, 8, .inl nft)), (nw5, .inl (cI, 3, .inl nfk)), (nw6, .inl (cI, 3, .inl nfa)), (nw7, .inl (cI, 3, .inl nfb))] := hD
      have c23_0 := hw_23
      have c23_0 : 0 ≤ v23_0.toInt ∧ v23_0.toInt ≤ 16 := c23_0
      refine lv_imul hx hb dX1_gives_230 ?_
      refine lv_topi (fun x_24 ex_24 => ?_)
      clear ex_24
      exact wr_i (v := x_24) hx hb hr hlocks hS (v23_0, v23_1) (by exact show 0 ≤ (v23_0 : Int32).toInt ∧ (v23_0 : Int32).toInt ≤ 16 from by omega) (hP.sub [0, 1, 2, 3, 4, 5, 6, 7, 8, 9, 10] rfl) (hD.sub [0, 1, 2, 3, 4, 5, 6, 7, 8, 9, 10] (by decide) rfl) dX1_gives_231
set_option maxHeartbeats 4000000 in
set_option maxRecDepth 100000 in
theorem g_X1_asked_1 (l : Launch) (D : va_G) (cI cB cQ : ClassId) (z : ZT) (sz : Nat) (h : Nat) (nw : Nat) (bo : Nat) (nw0 : Nat) (nw1 : Nat) (nw2 : Nat) (nw3 : Nat) (nw4 : Nat) (nw5 : Nat) (nw6 : Nat) (nw7 : Nat) (tc : Int32) (nvi : Int32) (nro : Int32) (nwa : Int32) (nlz : Int32) (nds : Int32) (ndy : Int32) (nga : Int32) (npa : Int32) (w : Int32) (k : Int32) (bf : Nat → Int32) (nfw : Nat → Int32) (nfo : Nat → Int32) (nfr : Nat → Int32) (nfn : Nat → Int32) (nft : Nat → Int32) (nfk : Nat → Int32) (nfa : Nat → Int32) (nfb : Nat → Int32) (nha : ∀ j, j < 3 → 0 ≤ (nfa j).toInt ∧ (nfa j).toInt ≤ 7) (h_tc : 0 ≤ tc.toInt ∧ tc.toInt ≤ 16) (h_nvi : 0 ≤ nvi.toInt ∧ nvi.toInt ≤ 8) (h_nwa : 0 ≤ nwa.toInt ∧ nwa.toInt ≤ 3) (h_w : 0 ≤ w.toInt ∧ w.toInt ≤ 2) : miz l yX1_asked wsX1_asked ({ frames := 19, cells := 0, slots := 0, locals := 442 }) z D cI cB cQ [.ref h, .int w, .int k, .int 1] sz [(h, .inr (1, [.ref nw, .ref bo, .int tc])), (bo, .inl (cI, 16, .inl bf)), (nw, .inr (3, [.int nvi, .int nro, .int nwa, .int nlz, .int nds, .int ndy, .int nga, .int npa, .ref nw0, .ref nw1, .ref nw2, .ref nw3, .ref nw4, .ref nw5, .ref nw6, .ref nw7])), (nw0, .inl (cI, 8, .inl nfw)), (nw1, .inl (cI, 8, .inl nfo)), (nw2, .inl (cI, 8, .inl nfr)), (nw3, .inl (cI, 8, .inl nfn)), (nw4, .inl (cI, 8, .inl nft)), (nw5, .inl (cI, 3, .inl nfk)), (nw6, .inl (cI, 3, .inl nfa)), (nw7, .inl (cI, 3, .inl nfb))] (fun (r : Int32) (u : Int32 × (Nat → Int32)) => (0 ≤ u.1.toInt ∧ u.1.toInt ≤ 16)) (fun u => [(h, .inr (1, [.ref nw, .ref bo, .int u.1])), (bo, .inl (cI, 16, .inl u.2)), (nw, .inr (3, [.int nvi, .int nro, .int nwa, .int nlz, .int nds, .int ndy, .int nga, .int npa, .ref nw0, .ref nw1, .ref nw2, .ref nw3, .ref nw4, .ref nw5, .ref nw6, .ref nw7])), (nw0, .inl (cI, 8, .inl nfw)), (nw1, .inl (cI, 8, .inl nfo)), (nw2, .inl (cI, 8, .inl nfr)), (nw3, .inl (cI, 8, .inl nfn)), (nw4, .inl (cI, 8, .inl nft)), (nw5, .inl (cI, 3, .inl nfk)), (nw6, .inl (cI, 3, .inl nfa)), (nw7, .inl (cI, 3, .inl nfb))]) 0 0 := by
  refine wm_z (cc := cX1_asked) (maxL := 4) (ret := (some .int)) (by decide) rfl (Nat.le_of_ble_eq_true rfl) ?_
  intro p e s m below meth c A ls hZ hAb hx hb hr hml hown hts hlocks hin hP hK hD hN hA hl hS
  have hown : s.vm.findClass RX1 = some m.cls := hown
  have hl : lv_has ls 4 [(0, .ref h), (1, .int w), (2, .int k), (3, .int 1)] := hl
  change W p l e ({ frames := 19, cells := 0, slots := 0, locals := 442 }) s m ([.ref h, .int w, .int k, .int 1] : List Value).toArray below meth c s.heap [] 0 0 (MQ below (va_Qi (fun (r : Int32) (u : Int32 × (Nat → Int32)) => (0 ≤ u.1.toInt ∧ u.1.toInt ≤ 16)) (fun u t => wb D A ((fun u => [(h, .inr (1, [.ref nw, .ref bo, .int u.1])), (bo, .inl (cI, 16, .inl u.2)), (nw, .inr (3, [.int nvi, .int nro, .int nwa, .int nlz, .int nds, .int ndy, .int nga, .int npa, .ref nw0, .ref nw1, .ref nw2, .ref nw3, .ref nw4, .ref nw5, .ref nw6, .ref nw7])), (nw0, .inl (cI, 8, .inl nfw)), (nw1, .inl (cI, 8, .inl nfo)), (nw2, .inl (cI, 8, .inl nfr)), (nw3, .inl (cI, 8, .inl nfn)), (nw4, .inl (cI, 8, .inl nft)), (nw5, .inl (cI, 3, .inl nfk)), (nw6, .inl (cI, 3, .inl nfa)), (nw7, .inl (cI, 3, .inl nfb))]) u) t) A) ([.ref h, .int w, .int k, .int 1] : List Value).toArray s 0 0 A) (F0 m 0 ls [])
  refine lv_aload_n hx hb dX1_asked_0 rfl (lv_at hl 0 rfl) ?_
  refine lv_aload_n hx hb dX1_asked_1 rfl (lv_at hl 0 rfl) ?_
  refine va_get (D := D) (ci := 1) (v := .ref nw) (C := RX1) (T := TX1) (N := 3) hx hb hts (fun _ h => List.mem_cons_of_mem _ (List.mem_append_left _ (List.mem_append_right _ h))) hown hK hP 0 rfl rfl 0 (by decide) (hts (.fieldLink RX1 19 "WinterWalk$Asks" "land" "LWinterWalk$Land;") (List.mem_of_getElem? (i := 1) rfl)) (fun _ h9 => h9) rfl dX1_asked_2 ?_
  refine va_get (D := D) (ci := 3) (v := .ref nw5) (C := RX4) (T := TX4) (N := 16) hx hb hts (fun _ h => List.mem_cons_of_mem _ (List.mem_append_right _ h)) hown hK hP 2 rfl rfl 13 (by decide) (hts (.fieldLink RX1 27 "WinterWalk$Land" "kinds" "[I") (List.mem_of_getElem? (i := 2) rfl)) (fun _ h9 => h9) rfl dX1_asked_5 ?_
  refine lv_iload_n hx hb dX1_asked_8 rfl (lv_at hl 1 rfl) ?_
  refine va_iald hx hb hK hP 8 0 rfl rfl (zi_in (by omega) (by omega)) dX1_asked_9 ?_
  refine lv_topi (fun x_1 ex_1 => ?_)
  clear ex_1
  refine lv_iload_n hx hb dX1_asked_10 rfl (lv_at hl 2 rfl) ?_
  have k_2 := (g_X1_bodyFor l D cI cB cQ z s.heap.size x_1 k)
  refine wc_i (WC := []) (WR := [(h, .inr (1, [.ref nw, .ref bo, .int tc])), (bo, .inl (cI, 16, .inl bf)), (nw, .inr (3, [.int nvi, .int nro, .int nwa, .int nlz, .int nds, .int ndy, .int nga, .int npa, .ref nw0, .ref nw1, .ref nw2, .ref nw3, .ref nw4, .ref nw5, .ref nw6, .ref nw7])), (nw0, .inl (cI, 8, .inl nfw)), (nw1, .inl (cI, 8, .inl nfo)), (nw2, .inl (cI, 8, .inl nfr)), (nw3, .inl (cI, 8, .inl nfn)), (nw4, .inl (cI, 8, .inl nft)), (nw5, .inl (cI, 3, .inl nfk)), (nw6, .inl (cI, 3, .inl nfa)), (nw7, .inl (cI, 3, .inl nfb))]) (va_runS (As := [.int x_1, .int k]) (rest := [.ref h]) ⟨hx, hb, hml, hown, hts⟩ k_2 (va_cwS 2 hts gX1_asked_X1_bodyFor rfl rfl rfl (by decide +kernel) ⟨Nat.le_of_ble_eq_true rfl, Nat.le_of_ble_eq_true rfl⟩) (wpz_S hZ hS hAb hP hK hD hN [] (by decide) rfl) rfl rfl hl.1 rfl (lv_room (Nat.le_of_ble_eq_true rfl)) dX1_asked_11 ⟨Nat.le_of_ble_eq_true rfl, Nat.le_of_ble_eq_true rfl⟩) hP hD hS hA [] [0, 1, 2, 3, 4, 5, 6, 7, 8, 9, 10] rfl rfl (by decide) (by decide) (fun r_2 u_2 H locs hw_2 hP hD hS => ?_)
  clear k_2
  have hP : va_P D kl [(h, .inr (1, [.ref nw, .ref bo, .int tc])), (bo, .inl (cI, 16, .inl bf)), (nw, .inr (3, [.int nvi, .int nro, .int nwa, .int nlz, .int nds, .int ndy, .int nga, .int npa, .ref nw0, .ref nw1, .ref nw2, .ref nw3, .ref nw4, .ref nw5, .ref nw6, .ref nw7])), (nw0, .inl (cI, 8, .inl nfw)), (nw1, .inl (cI, 8, .inl nfo)), (nw2, .inl (cI, 8, .inl nfr)), (nw3, .inl (cI, 8, .inl nfn)), (nw4, .inl (cI, 8, .inl nft)), (nw5, .inl (cI, 3, .inl nfk)), (nw6, .inl (cI, 3, .inl nfa)), (nw7, .inl (cI, 3, .inl nfb))] H := hP
  have hD : va_D A [(h, .inr (1, [.ref nw, .ref bo, .int tc])), (bo, .inl (cI, 16, .inl bf)), (nw, .inr (3, [.int nvi, .int nro, .int nwa, .int nlz, .int nds, .int ndy, .int nga, .int npa, .ref nw0, .ref nw1, .ref nw2, .ref nw3, .ref nw4, .ref nw5, .ref nw6, .ref nw7])), (nw0, .inl (cI, 8, .inl nfw)), (nw1, .inl (cI, 8, .inl nfo)), (nw2, .inl (cI, 8, .inl nfr)), (nw3, .inl (cI, 8, .inl nfn)), (nw4, .inl (cI, 8, .inl nft)), (nw5, .inl (cI, 3, .inl nfk)), (nw6, .inl (cI, 3, .inl nfa)), (nw7, .inl (cI, 3, .inl nfb))] := hD
  clear hw_2
  refine lv_iload_n hx hb dX1_asked_14 rfl (lv_at hl 1 rfl) ?_
  refine lv_iload_n hx hb dX1_asked_15 rfl (lv_at hl 3 rfl) ?_
  have k_3 := (g_X1_gives_1 l D cI cB cQ z H.size h nw bo nw0 nw1 nw2 nw3 nw4 nw5 nw6 nw7 tc nvi nro nwa nlz nds ndy nga npa r_2 w bf nfw nfo nfr nfn nft nfk nfa nfb nha (by omega) (by omega) (by omega) (by omega))
  refine wc_i (WC := [(h, .inr (1, [.ref nw, .ref bo, .int tc])), (bo, .inl (cI, 16, .inl bf)), (nw, .inr (3, [.int nvi, .int nro, .int nwa, .int nlz, .int nds, .int ndy, .int nga, .int npa, .ref nw0, .ref nw1, .ref nw2, .ref nw3, .ref nw4, .ref nw5, .ref nw6, .ref nw7])), (nw0, .inl (cI, 8, .inl nfw)), (nw1, .inl (cI, 8, .inl nfo)), (nw2, .inl (cI, 8, .inl nfr)), (nw3, .inl (cI, 8, .inl nfn)), (nw4, .inl (cI, 8, .inl nft)), (nw5, .inl (cI, 3, .inl nfk)), (nw6, .inl (cI, 3, .inl nfa)), (nw7, .inl (cI, 3, .inl nfb))]) (WR := []) (va_runV (As := [.int r_2, .int w, .int 1]) (rest := []) ⟨hx, hb, hml, hown, hts⟩ k_3 (cwV 3 hts gX1_asked_X1_gives rfl rfl rfl (by decide +kernel) ⟨Nat.le_of_ble_eq_true rfl, Nat.le_of_ble_eq_true rfl⟩) (wpz_V hZ hS hAb hP hK hD hN [0, 1, 2, 3, 4, 5, 6, 7, 8, 9, 10] (by decide) rfl (ci := 1) rfl rfl) rfl rfl hl.1 rfl (lv_room (Nat.le_of_ble_eq_true rfl)) dX1_asked_16 ⟨Nat.le_of_ble_eq_true rfl, Nat.le_of_ble_eq_true rfl⟩) hP hD hS hA [0, 1, 2, 3, 4, 5, 6, 7, 8, 9, 10] [] rfl rfl (by decide) (by decide) (fun r_3 u_3 H locs hw_3 hP hD hS => ?_)
  clear k_3
  obtain ⟨v3_0, v3_1⟩ := u_3
  have hP : va_P D kl [(h, .inr (1, [.ref nw, .ref bo, .int v3_0])), (bo, .inl (cI, 16, .inl v3_1)), (nw, .inr (3, [.int nvi, .int nro, .int nwa, .int nlz, .int nds, .int ndy, .int nga, .int npa, .ref nw0, .ref nw1, .ref nw2, .ref nw3, .ref nw4, .ref nw5, .ref nw6, .ref nw7])), (nw0, .inl (cI, 8, .inl nfw)), (nw1, .inl (cI, 8, .inl nfo)), (nw2, .inl (cI, 8, .inl nfr)), (nw3, .inl (cI, 8, .inl nfn)), (nw4, .inl (cI, 8, .inl nft)), (nw5, .inl (cI, 3, .inl nfk)), (nw6, .inl (cI, 3, .inl nfa)), (nw7, .inl (cI, 3, .inl nfb))] H := hP
  have hD : va_D A [(h, .inr (1, [.ref nw, .ref bo, .int v3_0])), (bo, .inl (cI, 16, .inl v3_1)), (nw, .inr (3, [.int nvi, .int nro, .int nwa, .int nlz, .int nds, .int ndy, .int nga, .int npa, .ref nw0, .ref nw1, .ref nw2, .ref nw3, .ref nw4, .ref nw5, .ref nw6, .ref nw7])), (nw0, .inl (cI, 8, .inl nfw)), (nw1, .inl (cI, 8, .inl nfo)), (nw2, .inl (cI, 8, .inl nfr)), (nw3, .inl (cI, 8, .inl nfn)), (nw4, .inl (cI, 8, .inl nft)), (nw5, .inl (cI, 3, .inl nfk)), (nw6, .inl (cI, 3, .inl nfa)), (nw7, .inl (cI, 3, .inl nfb))] := hD
  have c3_0 := hw_3
  have c3_0 : 0 ≤ v3_0.toInt ∧ v3_0.toInt ≤ 16 := c3_0
  exact wr_i (v := r_3) hx hb hr hlocks hS (v3_0, v3_1) (by exact show 0 ≤ (v3_0 : Int32).toInt ∧ (v3_0 : Int32).toInt ≤ 16 from by omega) (hP.sub [0, 1, 2, 3, 4, 5, 6, 7, 8, 9, 10] rfl) (hD.sub [0, 1, 2, 3, 4, 5, 6, 7, 8, 9, 10] (by decide) rfl) dX1_asked_19
set_option maxHeartbeats 4000000 in
set_option maxRecDepth 100000 in
theorem g_X1_gives_0 (l : Launch) (D : va_G) (cI cB cQ : ClassId) (z : ZT) (sz : Nat) (h : Nat) (nw : Nat) (bo : Nat) (nw0 : Nat) (nw1 : Nat) (nw2 : Nat) (nw3 : Nat) (nw4 : Nat) (nw5 : Nat) (nw6 : Nat) (nw7 : Nat) (tc : Int32) (nvi : Int32) (nro : Int32) (nwa : Int32) (nlz : Int32) (nds : Int32) (ndy : Int32) (nga : Int32) (npa : Int32) (k : Int32) (w : Int32) (bf : Nat → Int32) (nfw : Nat → Int32) (nfo : Nat → Int32) (nfr : Nat → Int32) (nfn : Nat → Int32) (nft : Nat → Int32) (nfk : Nat → Int32) (nfa : Nat → Int32) (nfb : Nat → Int32) (nha : ∀ j, j < 3 → 0 ≤ (nfa j).toInt ∧ (nfa j).toInt ≤ 7) (h_tc : 0 ≤ tc.toInt ∧ tc.toInt ≤ 16) (h_nvi : 0 ≤ nvi.toInt ∧ nvi.toInt ≤ 8) (h_nwa : 0 ≤ nwa.toInt ∧ nwa.toInt ≤ 3) (h_w : 0 ≤ w.toInt ∧ w.toInt ≤ 2) : miz l yX1_gives wsX1_gives ({ frames := 20, cells := 0, slots := 0, locals := 465 }) z D cI cB cQ [.ref h, .int k, .int w, .int 0] sz [(h, .inr (1, [.ref nw, .ref bo, .int tc])), (bo, .inl (cI, 16, .inl bf)), (nw, .inr (3, [.int nvi, .int nro, .int nwa, .int nlz, .int nds, .int ndy, .int nga, .int npa, .ref nw0, .ref nw1, .ref nw2, .ref nw3, .ref nw4, .ref nw5, .ref nw6, .ref nw7])), (nw0, .inl (cI, 8, .inl nfw)), (nw1, .inl (cI, 8, .inl nfo)), (nw2, .inl (cI, 8, .inl nfr)), (nw3, .inl (cI, 8, .inl nfn)), (nw4, .inl (cI, 8, .inl nft)), (nw5, .inl (cI, 3, .inl nfk)), (nw6, .inl (cI, 3, .inl nfa)), (nw7, .inl (cI, 3, .inl nfb))] (fun (r : Int32) (u : Int32 × (Nat → Int32)) => (0 ≤ u.1.toInt ∧ u.1.toInt ≤ 16)) (fun u => [(h, .inr (1, [.ref nw, .ref bo, .int u.1])), (bo, .inl (cI, 16, .inl u.2)), (nw, .inr (3, [.int nvi, .int nro, .int nwa, .int nlz, .int nds, .int ndy, .int nga, .int npa, .ref nw0, .ref nw1, .ref nw2, .ref nw3, .ref nw4, .ref nw5, .ref nw6, .ref nw7])), (nw0, .inl (cI, 8, .inl nfw)), (nw1, .inl (cI, 8, .inl nfo)), (nw2, .inl (cI, 8, .inl nfr)), (nw3, .inl (cI, 8, .inl nfn)), (nw4, .inl (cI, 8, .inl nft)), (nw5, .inl (cI, 3, .inl nfk)), (nw6, .inl (cI, 3, .inl nfa)), (nw7, .inl (cI, 3, .inl nfb))]) 0 0 := by
  refine wm_z (cc := cX1_gives) (maxL := 5) (ret := (some .int)) (by decide) rfl (Nat.le_of_ble_eq_true rfl) ?_
  intro p e s m below meth c A ls hZ hAb hx hb hr hml hown hts hlocks hin hP hK hD hN hA hl hS
  have hown : s.vm.findClass RX1 = some m.cls := hown
  have hl : lv_has ls 5 [(0, .ref h), (1, .int k), (2, .int w), (3, .int 0)] := hl
  change W p l e ({ frames := 20, cells := 0, slots := 0, locals := 465 }) s m ([.ref h, .int k, .int w, .int 0] : List Value).toArray below meth c s.heap [] 0 0 (MQ below (va_Qi (fun (r : Int32) (u : Int32 × (Nat → Int32)) => (0 ≤ u.1.toInt ∧ u.1.toInt ≤ 16)) (fun u t => wb D A ((fun u => [(h, .inr (1, [.ref nw, .ref bo, .int u.1])), (bo, .inl (cI, 16, .inl u.2)), (nw, .inr (3, [.int nvi, .int nro, .int nwa, .int nlz, .int nds, .int ndy, .int nga, .int npa, .ref nw0, .ref nw1, .ref nw2, .ref nw3, .ref nw4, .ref nw5, .ref nw6, .ref nw7])), (nw0, .inl (cI, 8, .inl nfw)), (nw1, .inl (cI, 8, .inl nfo)), (nw2, .inl (cI, 8, .inl nfr)), (nw3, .inl (cI, 8, .inl nfn)), (nw4, .inl (cI, 8, .inl nft)), (nw5, .inl (cI, 3, .inl nfk)), (nw6, .inl (cI, 3, .inl nfa)), (nw7, .inl (cI, 3, .inl nfb))]) u) t) A) ([.ref h, .int k, .int w, .int 0] : List Value).toArray s 0 0 A) (F0 m 0 ls [])
  refine lv_iload_n hx hb dX1_gives_0 rfl (lv_at hl 3 rfl) ?_
  refine lv_bipush (v := 8) hx hb dX1_gives_1 (by decide) ?_
  refine lv_icmp_le (tgt := 8) hx hb dX1_gives_3 (by decide) (fun _ => ?_) (fun c9 => absurd (by decide) c9)
  refine lv_aload_n hx hb dX1_gives_8 rfl (lv_at hl 0 rfl) ?_
  refine lv_iload_n hx hb dX1_gives_9 rfl (lv_at hl 1 rfl) ?_
  have k_1 := (g_X1_leaveTrace l D cI cB cQ s.heap.size h nw bo tc k bf (by omega))
  refine wc_v (WC := [(h, .inr (1, [.ref nw, .ref bo, .int tc])), (bo, .inl (cI, 16, .inl bf))]) (WR := [(nw, .inr (3, [.int nvi, .int nro, .int nwa, .int nlz, .int nds, .int ndy, .int nga, .int npa, .ref nw0, .ref nw1, .ref nw2, .ref nw3, .ref nw4, .ref nw5, .ref nw6, .ref nw7])), (nw0, .inl (cI, 8, .inl nfw)), (nw1, .inl (cI, 8, .inl nfo)), (nw2, .inl (cI, 8, .inl nfr)), (nw3, .inl (cI, 8, .inl nfn)), (nw4, .inl (cI, 8, .inl nft)), (nw5, .inl (cI, 3, .inl nfk)), (nw6, .inl (cI, 3, .inl nfa)), (nw7, .inl (cI, 3, .inl nfb))]) (va_runV (As := [.int k]) (rest := []) ⟨hx, hb, hml, hown, hts⟩ k_1 (cwV 1 hts gX1_gives_X1_leaveTrace rfl rfl rfl (by decide +kernel) ⟨Nat.le_of_ble_eq_true rfl, Nat.le_of_ble_eq_true rfl⟩) (wp_V hP hK hD hN [0, 1] (by decide) rfl (ci := 1) rfl rfl) rfl rfl hl.1 rfl (lv_room (Nat.le_of_ble_eq_true rfl)) dX1_gives_10 ⟨Nat.le_of_ble_eq_true rfl, Nat.le_of_ble_eq_true rfl⟩) hP hD hS hA [0, 1] [2, 3, 4, 5, 6, 7, 8, 9, 10] rfl rfl (by decide) (by decide) (fun u_1 H locs hw_1 hP hD hS => ?_)
  clear k_1
  obtain ⟨v1_0, v1_1⟩ := u_1
  have hP : va_P D kl [(nw, .inr (3, [.int nvi, .int nro, .int nwa, .int nlz, .int nds, .int ndy, .int nga, .int npa, .ref nw0, .ref nw1, .ref nw2, .ref nw3, .ref nw4, .ref nw5, .ref nw6, .ref nw7])), (nw0, .inl (cI, 8, .inl nfw)), (nw1, .inl (cI, 8, .inl nfo)), (nw2, .inl (cI, 8, .inl nfr)), (nw3, .inl (cI, 8, .inl nfn)), (nw4, .inl (cI, 8, .inl nft)), (nw5, .inl (cI, 3, .inl nfk)), (nw6, .inl (cI, 3, .inl nfa)), (nw7, .inl (cI, 3, .inl nfb)), (h, .inr (1, [.ref nw, .ref bo, .int v1_0])), (bo, .inl (cI, 16, .inl v1_1))] H := hP
  have hD : va_D A [(nw, .inr (3, [.int nvi, .int nro, .int nwa, .int nlz, .int nds, .int ndy, .int nga, .int npa, .ref nw0, .ref nw1, .ref nw2, .ref nw3, .ref nw4, .ref nw5, .ref nw6, .ref nw7])), (nw0, .inl (cI, 8, .inl nfw)), (nw1, .inl (cI, 8, .inl nfo)), (nw2, .inl (cI, 8, .inl nfr)), (nw3, .inl (cI, 8, .inl nfn)), (nw4, .inl (cI, 8, .inl nft)), (nw5, .inl (cI, 3, .inl nfk)), (nw6, .inl (cI, 3, .inl nfa)), (nw7, .inl (cI, 3, .inl nfb)), (h, .inr (1, [.ref nw, .ref bo, .int v1_0])), (bo, .inl (cI, 16, .inl v1_1))] := hD
  have c1_0 := hw_1
  have c1_0 : 0 ≤ v1_0.toInt ∧ v1_0.toInt ≤ 16 := c1_0
  refine lv_iload_n hx hb dX1_gives_13 rfl (lv_at hl 3 rfl) ?_
  refine lv_iconst (v := 1) hx hb dX1_gives_14 (by decide) ?_
  refine lv_iadd hx hb dX1_gives_15 ?_
  refine lv_topi (fun x_2 ex_2 => ?_)
  obtain rfl : x_2 = 1 := ex_2.trans (by decide)
  refine lv_istore (lv' := [(4, .int 1), (0, .ref h), (1, .int k), (2, .int w), (3, .int 0)]) hx hb dX1_gives_16 hl (by decide) rfl (fun ls hl => ?_)
  refine lv_iload_n hx hb dX1_gives_18 rfl (lv_at hl 2 rfl) ?_
  by_cases f_3 : k.toInt < 10 ∨ 24 < k.toInt
  · refine lv_tableOut (tgt := 232) hx hb dX1_gives_19 f_3 (by decide) ?_
    refine lv_iconst (v := 0) hx hb dX1_gives_232 (by decide) ?_
    exact wr_i (v := 0) hx hb hr hlocks hS (v1_0, v1_1) (by exact show 0 ≤ (v1_0 : Int32).toInt ∧ (v1_0 : Int32).toInt ≤ 16 from by omega) (hP.sub [9, 10, 0, 1, 2, 3, 4, 5, 6, 7, 8] rfl) (hD.sub [9, 10, 0, 1, 2, 3, 4, 5, 6, 7, 8] (by decide) rfl) dX1_gives_233
  · rcases (show k.toInt = 10 ∨ k.toInt = 11 ∨ k.toInt = 12 ∨ k.toInt = 13 ∨ k.toInt = 14 ∨ k.toInt = 15 ∨ k.toInt = 16 ∨ k.toInt = 17 ∨ k.toInt = 18 ∨ k.toInt = 19 ∨ k.toInt = 20 ∨ k.toInt = 21 ∨ k.toInt = 22 ∨ k.toInt = 23 ∨ k.toInt = 24 by omega) with g_3 | g_3 | g_3 | g_3 | g_3 | g_3 | g_3 | g_3 | g_3 | g_3 | g_3 | g_3 | g_3 | g_3 | g_3
    · refine lv_tableIn (off := 73) (tgt := 92) hx hb dX1_gives_19 (by omega) (by omega) (by rw [g_3]; rfl) (by decide) ?_
      refine lv_aload_n hx hb dX1_gives_92 rfl (lv_at hl 1 rfl) ?_
      refine va_get (D := D) (ci := 1) (v := .ref nw) (C := RX1) (T := TX1) (N := 3) hx hb hts (fun _ h => List.mem_cons_of_mem _ (List.mem_append_left _ (List.mem_append_right _ h))) hown hK hP 9 rfl rfl 0 (by decide) (hts (.fieldLink RX1 19 "WinterWalk$Asks" "land" "LWinterWalk$Land;") (List.mem_of_getElem? (i := 1) rfl)) (fun _ h9 => h9) rfl dX1_gives_93 ?_
      refine va_get (D := D) (ci := 3) (v := .ref nw6) (C := RX4) (T := TX4) (N := 16) hx hb hts (fun _ h => List.mem_cons_of_mem _ (List.mem_append_right _ h)) hown hK hP 0 rfl rfl 14 (by decide) (hts (.fieldLink RX1 59 "WinterWalk$Land" "at" "[I") (List.mem_of_getElem? (i := 2) rfl)) (fun _ h9 => h9) rfl dX1_gives_96 ?_
      refine lv_iload_n hx hb dX1_gives_99 rfl (lv_at hl 3 rfl) ?_
      refine va_iald hx hb hK hP 7 0 rfl rfl (zi_in (by omega) (by omega)) dX1_gives_100 ?_
      refine lv_topi (fun x_4 ex_4 => ?_)
      have f_4 : 0 ≤ x_4.toInt ∧ x_4.toInt ≤ 7 := by rw [ex_4]; exact nha _ (zi_cl (by omega) (by omega))
      clear ex_4
      exact wr_i (v := x_4) hx hb hr hlocks hS (v1_0, v1_1) (by exact show 0 ≤ (v1_0 : Int32).toInt ∧ (v1_0 : Int32).toInt ≤ 16 from by omega) (hP.sub [9, 10, 0, 1, 2, 3, 4, 5, 6, 7, 8] rfl) (hD.sub [9, 10, 0, 1, 2, 3, 4, 5, 6, 7, 8] (by decide) rfl) dX1_gives_101
    · refine lv_tableIn (off := 83) (tgt := 102) hx hb dX1_gives_19 (by omega) (by omega) (by rw [g_3]; rfl) (by decide) ?_
      refine lv_aload_n hx hb dX1_gives_102 rfl (lv_at hl 1 rfl) ?_
      refine lv_bipush (v := 10) hx hb dX1_gives_103 (by decide) ?_
      refine lv_iload_n hx hb dX1_gives_105 rfl (lv_at hl 3 rfl) ?_
      refine lv_iload hx hb dX1_gives_106 (lv_at hl 0 rfl) ?_
      have k_5 := (g_X1_gives_1 l D cI cB cQ z H.size h nw bo nw0 nw1 nw2 nw3 nw4 nw5 nw6 nw7 v1_0 nvi nro nwa nlz nds ndy nga npa 10 w v1_1 nfw nfo nfr nfn nft nfk nfa nfb nha (by omega) (by omega) (by omega) (by omega))
      refine wc_i (WC := [(h, .inr (1, [.ref nw, .ref bo, .int v1_0])), (bo, .inl (cI, 16, .inl v1_1)), (nw, .inr (3, [.int nvi, .int nro, .int nwa, .int nlz, .int nds, .int ndy, .int nga, .int npa, .ref nw0, .ref nw1, .ref nw2, .ref nw3, .ref nw4, .ref nw5, .ref nw6, .ref nw7])), (nw0, .inl (cI, 8, .inl nfw)), (nw1, .inl (cI, 8, .inl nfo)), (nw2, .inl (cI, 8, .inl nfr)), (nw3, .inl (cI, 8, .inl nfn)), (nw4, .inl (cI, 8, .inl nft)), (nw5, .inl (cI, 3, .inl nfk)), (nw6, .inl (cI, 3, .inl nfa)), (nw7, .inl (cI, 3, .inl nfb))]) (WR := []) (va_runV (As := [.int 10, .int w, .int 1]) (rest := []) ⟨hx, hb, hml, hown, hts⟩ k_5 (cwV 3 hts gX1_gives_X1_gives rfl rfl rfl (by decide +kernel) ⟨Nat.le_of_ble_eq_true rfl, Nat.le_of_ble_eq_true rfl⟩) (wpz_V hZ hS hAb hP hK hD hN [9, 10, 0, 1, 2, 3, 4, 5, 6, 7, 8] (by decide) rfl (ci := 1) rfl rfl) rfl rfl hl.1 rfl (lv_room (Nat.le_of_ble_eq_true rfl)) dX1_gives_108 ⟨Nat.le_of_ble_eq_true rfl, Nat.le_of_ble_eq_true rfl⟩) hP hD hS hA [9, 10, 0, 1, 2, 3, 4, 5, 6, 7, 8] [] rfl rfl (by decide) (by decide) (fun r_5 u_5 H locs hw_5 hP hD hS => ?_)
      clear k_5
      obtain ⟨v5_0, v5_1⟩ := u_5
      have hP : va_P D kl [(h, .inr (1, [.ref nw, .ref bo, .int v5_0])), (bo, .inl (cI, 16, .inl v5_1)), (nw, .inr (3, [.int nvi, .int nro, .int nwa, .int nlz, .int nds, .int ndy, .int nga, .int npa, .ref nw0, .ref nw1, .ref nw2, .ref nw3, .ref nw4, .ref nw5, .ref nw6, .ref nw7])), (nw0, .inl (cI, 8, .inl nfw)), (nw1, .inl (cI, 8, .inl nfo)), (nw2, .inl (cI, 8, .inl nfr)), (nw3, .inl (cI, 8, .inl nfn)), (nw4, .inl (cI, 8, .inl nft)), (nw5, .inl (cI, 3, .inl nfk)), (nw6, .inl (cI, 3, .inl nfa)), (nw7, .inl (cI, 3, .inl nfb))] H := hP
      have hD : va_D A [(h, .inr (1, [.ref nw, .ref bo, .int v5_0])), (bo, .inl (cI, 16, .inl v5_1)), (nw, .inr (3, [.int nvi, .int nro, .int nwa, .int nlz, .int nds, .int ndy, .int nga, .int npa, .ref nw0, .ref nw1, .ref nw2, .ref nw3, .ref nw4, .ref nw5, .ref nw6, .ref nw7])), (nw0, .inl (cI, 8, .inl nfw)), (nw1, .inl (cI, 8, .inl nfo)), (nw2, .inl (cI, 8, .inl nfr)), (nw3, .inl (cI, 8, .inl nfn)), (nw4, .inl (cI, 8, .inl nft)), (nw5, .inl (cI, 3, .inl nfk)), (nw6, .inl (cI, 3, .inl nfa)), (nw7, .inl (cI, 3, .inl nfb))] := hD
      have c5_0 := hw_5
      have c5_0 : 0 ≤ v5_0.toInt ∧ v5_0.toInt ≤ 16 := c5_0
      refine lv_aload_n hx hb dX1_gives_111 rfl (lv_at hl 1 rfl) ?_
      refine lv_iload_n hx hb dX1_gives_112 rfl (lv_at hl 3 rfl) ?_
      refine lv_iconst (v := 1) hx hb dX1_gives_113 (by decide) ?_
      refine lv_iload hx hb dX1_gives_114 (lv_at hl 0 rfl) ?_
      have k_6 := (g_X1_asked_1 l D cI cB cQ z H.size h nw bo nw0 nw1 nw2 nw3 nw4 nw5 nw6 nw7 v5_0 nvi nro nwa nlz nds ndy nga npa w 1 v5_1 nfw nfo nfr nfn nft nfk nfa nfb nha (by omega) (by omega) (by omega) (by omega))
      refine wc_i (WC := [(h, .inr (1, [.ref nw, .ref bo, .int v5_0])), (bo, .inl (cI, 16, .inl v5_1)), (nw, .inr (3, [.int nvi, .int nro, .int nwa, .int nlz, .int nds, .int ndy, .int nga, .int npa, .ref nw0, .ref nw1, .ref nw2, .ref nw3, .ref nw4, .ref nw5, .ref nw6, .ref nw7])), (nw0, .inl (cI, 8, .inl nfw)), (nw1, .inl (cI, 8, .inl nfo)), (nw2, .inl (cI, 8, .inl nfr)), (nw3, .inl (cI, 8, .inl nfn)), (nw4, .inl (cI, 8, .inl nft)), (nw5, .inl (cI, 3, .inl nfk)), (nw6, .inl (cI, 3, .inl nfa)), (nw7, .inl (cI, 3, .inl nfb))]) (WR := []) (va_runV (As := [.int w, .int 1, .int 1]) (rest := [.int r_5]) ⟨hx, hb, hml, hown, hts⟩ k_6 (cwV 3 hts gX1_gives_X1_asked rfl rfl rfl (by decide +kernel) ⟨Nat.le_of_ble_eq_true rfl, Nat.le_of_ble_eq_true rfl⟩) (wpz_V hZ hS hAb hP hK hD hN [0, 1, 2, 3, 4, 5, 6, 7, 8, 9, 10] (by decide) rfl (ci := 1) rfl rfl) rfl rfl hl.1 rfl (lv_room (Nat.le_of_ble_eq_true rfl)) dX1_gives_116 ⟨Nat.le_of_ble_eq_true rfl, Nat.le_of_ble_eq_true rfl⟩) hP hD hS hA [0, 1, 2, 3, 4, 5, 6, 7, 8, 9, 10] [] rfl rfl (by decide) (by decide) (fun r_6 u_6 H locs hw_6 hP hD hS => ?_)
      clear k_6
      obtain ⟨v6_0, v6_1⟩ := u_6
      have hP : va_P D kl [(h, .inr (1, [.ref nw, .ref bo, .int v6_0])), (bo, .inl (cI, 16, .inl v6_1)), (nw, .inr (3, [.int nvi, .int nro, .int nwa, .int nlz, .int nds, .int ndy, .int nga, .int npa, .ref nw0, .ref nw1, .ref nw2, .ref nw3, .ref nw4, .ref nw5, .ref nw6, .ref nw7])), (nw0, .inl (cI, 8, .inl nfw)), (nw1, .inl (cI, 8, .inl nfo)), (nw2, .inl (cI, 8, .inl nfr)), (nw3, .inl (cI, 8, .inl nfn)), (nw4, .inl (cI, 8, .inl nft)), (nw5, .inl (cI, 3, .inl nfk)), (nw6, .inl (cI, 3, .inl nfa)), (nw7, .inl (cI, 3, .inl nfb))] H := hP
      have hD : va_D A [(h, .inr (1, [.ref nw, .ref bo, .int v6_0])), (bo, .inl (cI, 16, .inl v6_1)), (nw, .inr (3, [.int nvi, .int nro, .int nwa, .int nlz, .int nds, .int ndy, .int nga, .int npa, .ref nw0, .ref nw1, .ref nw2, .ref nw3, .ref nw4, .ref nw5, .ref nw6, .ref nw7])), (nw0, .inl (cI, 8, .inl nfw)), (nw1, .inl (cI, 8, .inl nfo)), (nw2, .inl (cI, 8, .inl nfr)), (nw3, .inl (cI, 8, .inl nfn)), (nw4, .inl (cI, 8, .inl nft)), (nw5, .inl (cI, 3, .inl nfk)), (nw6, .inl (cI, 3, .inl nfa)), (nw7, .inl (cI, 3, .inl nfb))] := hD
      have c6_0 := hw_6
      have c6_0 : 0 ≤ v6_0.toInt ∧ v6_0.toInt ≤ 16 := c6_0
      refine lv_iadd hx hb dX1_gives_119 ?_
      refine lv_topi (fun x_7 ex_7 => ?_)
      clear ex_7
      exact wr_i (v := x_7) hx hb hr hlocks hS (v6_0, v6_1) (by exact show 0 ≤ (v6_0 : Int32).toInt ∧ (v6_0 : Int32).toInt ≤ 16 from by omega) (hP.sub [0, 1, 2, 3, 4, 5, 6, 7, 8, 9, 10] rfl) (hD.sub [0, 1, 2, 3, 4, 5, 6, 7, 8, 9, 10] (by decide) rfl) dX1_gives_120
    · refine lv_tableIn (off := 102) (tgt := 121) hx hb dX1_gives_19 (by omega) (by omega) (by rw [g_3]; rfl) (by decide) ?_
      refine lv_aload_n hx hb dX1_gives_121 rfl (lv_at hl 1 rfl) ?_
      refine lv_bipush (v := 11) hx hb dX1_gives_122 (by decide) ?_
      refine lv_iload_n hx hb dX1_gives_124 rfl (lv_at hl 3 rfl) ?_
      refine lv_iload hx hb dX1_gives_125 (lv_at hl 0 rfl) ?_
      have k_8 := (g_X1_gives_1 l D cI cB cQ z H.size h nw bo nw0 nw1 nw2 nw3 nw4 nw5 nw6 nw7 v1_0 nvi nro nwa nlz nds ndy nga npa 11 w v1_1 nfw nfo nfr nfn nft nfk nfa nfb nha (by omega) (by omega) (by omega) (by omega))
      refine wc_i (WC := [(h, .inr (1, [.ref nw, .ref bo, .int v1_0])), (bo, .inl (cI, 16, .inl v1_1)), (nw, .inr (3, [.int nvi, .int nro, .int nwa, .int nlz, .int nds, .int ndy, .int nga, .int npa, .ref nw0, .ref nw1, .ref nw2, .ref nw3, .ref nw4, .ref nw5, .ref nw6, .ref nw7])), (nw0, .inl (cI, 8, .inl nfw)), (nw1, .inl (cI, 8, .inl nfo)), (nw2, .inl (cI, 8, .inl nfr)), (nw3, .inl (cI, 8, .inl nfn)), (nw4, .inl (cI, 8, .inl nft)), (nw5, .inl (cI, 3, .inl nfk)), (nw6, .inl (cI, 3, .inl nfa)), (nw7, .inl (cI, 3, .inl nfb))]) (WR := []) (va_runV (As := [.int 11, .int w, .int 1]) (rest := []) ⟨hx, hb, hml, hown, hts⟩ k_8 (cwV 3 hts gX1_gives_X1_gives rfl rfl rfl (by decide +kernel) ⟨Nat.le_of_ble_eq_true rfl, Nat.le_of_ble_eq_true rfl⟩) (wpz_V hZ hS hAb hP hK hD hN [9, 10, 0, 1, 2, 3, 4, 5, 6, 7, 8] (by decide) rfl (ci := 1) rfl rfl) rfl rfl hl.1 rfl (lv_room (Nat.le_of_ble_eq_true rfl)) dX1_gives_127 ⟨Nat.le_of_ble_eq_true rfl, Nat.le_of_ble_eq_true rfl⟩) hP hD hS hA [9, 10, 0, 1, 2, 3, 4, 5, 6, 7, 8] [] rfl rfl (by decide) (by decide) (fun r_8 u_8 H locs hw_8 hP hD hS => ?_)
      clear k_8
      obtain ⟨v8_0, v8_1⟩ := u_8
      have hP : va_P D kl [(h, .inr (1, [.ref nw, .ref bo, .int v8_0])), (bo, .inl (cI, 16, .inl v8_1)), (nw, .inr (3, [.int nvi, .int nro, .int nwa, .int nlz, .int nds, .int ndy, .int nga, .int npa, .ref nw0, .ref nw1, .ref nw2, .ref nw3, .ref nw4, .ref nw5, .ref nw6, .ref nw7])), (nw0, .inl (cI, 8, .inl nfw)), (nw1, .inl (cI, 8, .inl nfo)), (nw2, .inl (cI, 8, .inl nfr)), (nw3, .inl (cI, 8, .inl nfn)), (nw4, .inl (cI, 8, .inl nft)), (nw5, .inl (cI, 3, .inl nfk)), (nw6, .inl (cI, 3, .inl nfa)), (nw7, .inl (cI, 3, .inl nfb))] H := hP
      have hD : va_D A [(h, .inr (1, [.ref nw, .ref bo, .int v8_0])), (bo, .inl (cI, 16, .inl v8_1)), (nw, .inr (3, [.int nvi, .int nro, .int nwa, .int nlz, .int nds, .int ndy, .int nga, .int npa, .ref nw0, .ref nw1, .ref nw2, .ref nw3, .ref nw4, .ref nw5, .ref nw6, .ref nw7])), (nw0, .inl (cI, 8, .inl nfw)), (nw1, .inl (cI, 8, .inl nfo)), (nw2, .inl (cI, 8, .inl nfr)), (nw3, .inl (cI, 8, .inl nfn)), (nw4, .inl (cI, 8, .inl nft)), (nw5, .inl (cI, 3, .inl nfk)), (nw6, .inl (cI, 3, .inl nfa)), (nw7, .inl (cI, 3, .inl nfb))] := hD
      have c8_0 := hw_8
      have c8_0 : 0 ≤ v8_0.toInt ∧ v8_0.toInt ≤ 16 := c8_0
      refine lv_ineg hx hb dX1_gives_130 ?_
      refine lv_topi (fun x_9 ex_9 => ?_)
      clear ex_9
      exact wr_i (v := x_9) hx hb hr hlocks hS (v8_0, v8_1) (by exact show 0 ≤ (v8_0 : Int32).toInt ∧ (v8_0 : Int32).toInt ≤ 16 from by omega) (hP.sub [0, 1, 2, 3, 4, 5, 6, 7, 8, 9, 10] rfl) (hD.sub [0, 1, 2, 3, 4, 5, 6, 7, 8, 9, 10] (by decide) rfl) dX1_gives_131
    · refine lv_tableIn (off := 113) (tgt := 132) hx hb dX1_gives_19 (by omega) (by omega) (by rw [g_3]; rfl) (by decide) ?_
      refine lv_aload_n hx hb dX1_gives_132 rfl (lv_at hl 1 rfl) ?_
      refine lv_bipush (v := 10) hx hb dX1_gives_133 (by decide) ?_
      refine lv_iload_n hx hb dX1_gives_135 rfl (lv_at hl 3 rfl) ?_
      refine lv_iload hx hb dX1_gives_136 (lv_at hl 0 rfl) ?_
      have k_10 := (g_X1_gives_1 l D cI cB cQ z H.size h nw bo nw0 nw1 nw2 nw3 nw4 nw5 nw6 nw7 v1_0 nvi nro nwa nlz nds ndy nga npa 10 w v1_1 nfw nfo nfr nfn nft nfk nfa nfb nha (by omega) (by omega) (by omega) (by omega))
      refine wc_i (WC := [(h, .inr (1, [.ref nw, .ref bo, .int v1_0])), (bo, .inl (cI, 16, .inl v1_1)), (nw, .inr (3, [.int nvi, .int nro, .int nwa, .int nlz, .int nds, .int ndy, .int nga, .int npa, .ref nw0, .ref nw1, .ref nw2, .ref nw3, .ref nw4, .ref nw5, .ref nw6, .ref nw7])), (nw0, .inl (cI, 8, .inl nfw)), (nw1, .inl (cI, 8, .inl nfo)), (nw2, .inl (cI, 8, .inl nfr)), (nw3, .inl (cI, 8, .inl nfn)), (nw4, .inl (cI, 8, .inl nft)), (nw5, .inl (cI, 3, .inl nfk)), (nw6, .inl (cI, 3, .inl nfa)), (nw7, .inl (cI, 3, .inl nfb))]) (WR := []) (va_runV (As := [.int 10, .int w, .int 1]) (rest := []) ⟨hx, hb, hml, hown, hts⟩ k_10 (cwV 3 hts gX1_gives_X1_gives rfl rfl rfl (by decide +kernel) ⟨Nat.le_of_ble_eq_true rfl, Nat.le_of_ble_eq_true rfl⟩) (wpz_V hZ hS hAb hP hK hD hN [9, 10, 0, 1, 2, 3, 4, 5, 6, 7, 8] (by decide) rfl (ci := 1) rfl rfl) rfl rfl hl.1 rfl (lv_room (Nat.le_of_ble_eq_true rfl)) dX1_gives_138 ⟨Nat.le_of_ble_eq_true rfl, Nat.le_of_ble_eq_true rfl⟩) hP hD hS hA [9, 10, 0, 1, 2, 3, 4, 5, 6, 7, 8] [] rfl rfl (by decide) (by decide) (fun r_10 u_10 H locs hw_10 hP hD hS => ?_)
      clear k_10
      obtain ⟨v10_0, v10_1⟩ := u_10
      have hP : va_P D kl [(h, .inr (1, [.ref nw, .ref bo, .int v10_0])), (bo, .inl (cI, 16, .inl v10_1)), (nw, .inr (3, [.int nvi, .int nro, .int nwa, .int nlz, .int nds, .int ndy, .int nga, .int npa, .ref nw0, .ref nw1, .ref nw2, .ref nw3, .ref nw4, .ref nw5, .ref nw6, .ref nw7])), (nw0, .inl (cI, 8, .inl nfw)), (nw1, .inl (cI, 8, .inl nfo)), (nw2, .inl (cI, 8, .inl nfr)), (nw3, .inl (cI, 8, .inl nfn)), (nw4, .inl (cI, 8, .inl nft)), (nw5, .inl (cI, 3, .inl nfk)), (nw6, .inl (cI, 3, .inl nfa)), (nw7, .inl (cI, 3, .inl nfb))] H := hP
      have hD : va_D A [(h, .inr (1, [.ref nw, .ref bo, .int v10_0])), (bo, .inl (cI, 16, .inl v10_1)), (nw, .inr (3, [.int nvi, .int nro, .int nwa, .int nlz, .int nds, .int ndy, .int nga, .int npa, .ref nw0, .ref nw1, .ref nw2, .ref nw3, .ref nw4, .ref nw5, .ref nw6, .ref nw7])), (nw0, .inl (cI, 8, .inl nfw)), (nw1, .inl (cI, 8, .inl nfo)), (nw2, .inl (cI, 8, .inl nfr)), (nw3, .inl (cI, 8, .inl nfn)), (nw4, .inl (cI, 8, .inl nft)), (nw5, .inl (cI, 3, .inl nfk)), (nw6, .inl (cI, 3, .inl nfa)), (nw7, .inl (cI, 3, .inl nfb))] := hD
      have c10_0 := hw_10
      have c10_0 : 0 ≤ v10_0.toInt ∧ v10_0.toInt ≤ 16 := c10_0
      refine lv_bipush (v := 100) hx hb dX1_gives_141 (by decide) ?_
      refine lv_isub hx hb dX1_gives_143 ?_
      refine lv_topi (fun x_11 ex_11 => ?_)
      clear ex_11
      exact wr_i (v := x_11) hx hb hr hlocks hS (v10_0, v10_1) (by exact show 0 ≤ (v10_0 : Int32).toInt ∧ (v10_0 : Int32).toInt ≤ 16 from by omega) (hP.sub [0, 1, 2, 3, 4, 5, 6, 7, 8, 9, 10] rfl) (hD.sub [0, 1, 2, 3, 4, 5, 6, 7, 8, 9, 10] (by decide) rfl) dX1_gives_144
    · refine lv_tableIn (off := 126) (tgt := 145) hx hb dX1_gives_19 (by omega) (by omega) (by rw [g_3]; rfl) (by decide) ?_
      refine lv_iconst (v := 2) hx hb dX1_gives_145 (by decide) ?_
      refine lv_aload_n hx hb dX1_gives_146 rfl (lv_at hl 1 rfl) ?_
      refine lv_bipush (v := 13) hx hb dX1_gives_147 (by decide) ?_
      refine lv_iload_n hx hb dX1_gives_149 rfl (lv_at hl 3 rfl) ?_
      refine lv_iload hx hb dX1_gives_150 (lv_at hl 0 rfl) ?_
      have k_12 := (g_X1_gives_1 l D cI cB cQ z H.size h nw bo nw0 nw1 nw2 nw3 nw4 nw5 nw6 nw7 v1_0 nvi nro nwa nlz nds ndy nga npa 13 w v1_1 nfw nfo nfr nfn nft nfk nfa nfb nha (by omega) (by omega) (by omega) (by omega))
      refine wc_i (WC := [(h, .inr (1, [.ref nw, .ref bo, .int v1_0])), (bo, .inl (cI, 16, .inl v1_1)), (nw, .inr (3, [.int nvi, .int nro, .int nwa, .int nlz, .int nds, .int ndy, .int nga, .int npa, .ref nw0, .ref nw1, .ref nw2, .ref nw3, .ref nw4, .ref nw5, .ref nw6, .ref nw7])), (nw0, .inl (cI, 8, .inl nfw)), (nw1, .inl (cI, 8, .inl nfo)), (nw2, .inl (cI, 8, .inl nfr)), (nw3, .inl (cI, 8, .inl nfn)), (nw4, .inl (cI, 8, .inl nft)), (nw5, .inl (cI, 3, .inl nfk)), (nw6, .inl (cI, 3, .inl nfa)), (nw7, .inl (cI, 3, .inl nfb))]) (WR := []) (va_runV (As := [.int 13, .int w, .int 1]) (rest := [.int 2]) ⟨hx, hb, hml, hown, hts⟩ k_12 (cwV 3 hts gX1_gives_X1_gives rfl rfl rfl (by decide +kernel) ⟨Nat.le_of_ble_eq_true rfl, Nat.le_of_ble_eq_true rfl⟩) (wpz_V hZ hS hAb hP hK hD hN [9, 10, 0, 1, 2, 3, 4, 5, 6, 7, 8] (by decide) rfl (ci := 1) rfl rfl) rfl rfl hl.1 rfl (lv_room (Nat.le_of_ble_eq_true rfl)) dX1_gives_152 ⟨Nat.le_of_ble_eq_true rfl, Nat.le_of_ble_eq_true rfl⟩) hP hD hS hA [9, 10, 0, 1, 2, 3, 4, 5, 6, 7, 8] [] rfl rfl (by decide) (by decide) (fun r_12 u_12 H locs hw_12 hP hD hS => ?_)
      clear k_12
      obtain ⟨v12_0, v12_1⟩ := u_12
      have hP : va_P D kl [(h, .inr (1, [.ref nw, .ref bo, .int v12_0])), (bo, .inl (cI, 16, .inl v12_1)), (nw, .inr (3, [.int nvi, .int nro, .int nwa, .int nlz, .int nds, .int ndy, .int nga, .int npa, .ref nw0, .ref nw1, .ref nw2, .ref nw3, .ref nw4, .ref nw5, .ref nw6, .ref nw7])), (nw0, .inl (cI, 8, .inl nfw)), (nw1, .inl (cI, 8, .inl nfo)), (nw2, .inl (cI, 8, .inl nfr)), (nw3, .inl (cI, 8, .inl nfn)), (nw4, .inl (cI, 8, .inl nft)), (nw5, .inl (cI, 3, .inl nfk)), (nw6, .inl (cI, 3, .inl nfa)), (nw7, .inl (cI, 3, .inl nfb))] H := hP
      have hD : va_D A [(h, .inr (1, [.ref nw, .ref bo, .int v12_0])), (bo, .inl (cI, 16, .inl v12_1)), (nw, .inr (3, [.int nvi, .int nro, .int nwa, .int nlz, .int nds, .int ndy, .int nga, .int npa, .ref nw0, .ref nw1, .ref nw2, .ref nw3, .ref nw4, .ref nw5, .ref nw6, .ref nw7])), (nw0, .inl (cI, 8, .inl nfw)), (nw1, .inl (cI, 8, .inl nfo)), (nw2, .inl (cI, 8, .inl nfr)), (nw3, .inl (cI, 8, .inl nfn)), (nw4, .inl (cI, 8, .inl nft)), (nw5, .inl (cI, 3, .inl nfk)), (nw6, .inl (cI, 3, .inl nfa)), (nw7, .inl (cI, 3, .inl nfb))] := hD
      have c12_0 := hw_12
      have c12_0 : 0 ≤ v12_0.toInt ∧ v12_0.toInt ≤ 16 := c12_0
      refine lv_imul hx hb dX1_gives_155 ?_
      refine lv_topi (fun x_13 ex_13 => ?_)
      clear ex_13
      exact wr_i (v := x_13) hx hb hr hlocks hS (v12_0, v12_1) (by exact show 0 ≤ (v12_0 : Int32).toInt ∧ (v12_0 : Int32).toInt ≤ 16 from by omega) (hP.sub [0, 1, 2, 3, 4, 5, 6, 7, 8, 9, 10] rfl) (hD.sub [0, 1, 2, 3, 4, 5, 6, 7, 8, 9, 10] (by decide) rfl) dX1_gives_156
    · refine lv_tableIn (off := 213) (tgt := 232) hx hb dX1_gives_19 (by omega) (by omega) (by rw [g_3]; rfl) (by decide) ?_
      refine lv_iconst (v := 0) hx hb dX1_gives_232 (by decide) ?_
      exact wr_i (v := 0) hx hb hr hlocks hS (v1_0, v1_1) (by exact show 0 ≤ (v1_0 : Int32).toInt ∧ (v1_0 : Int32).toInt ≤ 16 from by omega) (hP.sub [9, 10, 0, 1, 2, 3, 4, 5, 6, 7, 8] rfl) (hD.sub [9, 10, 0, 1, 2, 3, 4, 5, 6, 7, 8] (by decide) rfl) dX1_gives_233
    · refine lv_tableIn (off := 213) (tgt := 232) hx hb dX1_gives_19 (by omega) (by omega) (by rw [g_3]; rfl) (by decide) ?_
      refine lv_iconst (v := 0) hx hb dX1_gives_232 (by decide) ?_
      exact wr_i (v := 0) hx hb hr hlocks hS (v1_0, v1_1) (by exact show 0 ≤ (v1_0 : Int32).toInt ∧ (v1_0 : Int32).toInt ≤ 16 from by omega) (hP.sub [9, 10, 0, 1, 2, 3, 4, 5, 6, 7, 8] rfl) (hD.sub [9, 10, 0, 1, 2, 3, 4, 5, 6, 7, 8] (by decide) rfl) dX1_gives_233
    · refine lv_tableIn (off := 213) (tgt := 232) hx hb dX1_gives_19 (by omega) (by omega) (by rw [g_3]; rfl) (by decide) ?_
      refine lv_iconst (v := 0) hx hb dX1_gives_232 (by decide) ?_
      exact wr_i (v := 0) hx hb hr hlocks hS (v1_0, v1_1) (by exact show 0 ≤ (v1_0 : Int32).toInt ∧ (v1_0 : Int32).toInt ≤ 16 from by omega) (hP.sub [9, 10, 0, 1, 2, 3, 4, 5, 6, 7, 8] rfl) (hD.sub [9, 10, 0, 1, 2, 3, 4, 5, 6, 7, 8] (by decide) rfl) dX1_gives_233
    · refine lv_tableIn (off := 213) (tgt := 232) hx hb dX1_gives_19 (by omega) (by omega) (by rw [g_3]; rfl) (by decide) ?_
      refine lv_iconst (v := 0) hx hb dX1_gives_232 (by decide) ?_
      exact wr_i (v := 0) hx hb hr hlocks hS (v1_0, v1_1) (by exact show 0 ≤ (v1_0 : Int32).toInt ∧ (v1_0 : Int32).toInt ≤ 16 from by omega) (hP.sub [9, 10, 0, 1, 2, 3, 4, 5, 6, 7, 8] rfl) (hD.sub [9, 10, 0, 1, 2, 3, 4, 5, 6, 7, 8] (by decide) rfl) dX1_gives_233
    · refine lv_tableIn (off := 213) (tgt := 232) hx hb dX1_gives_19 (by omega) (by omega) (by rw [g_3]; rfl) (by decide) ?_
      refine lv_iconst (v := 0) hx hb dX1_gives_232 (by decide) ?_
      exact wr_i (v := 0) hx hb hr hlocks hS (v1_0, v1_1) (by exact show 0 ≤ (v1_0 : Int32).toInt ∧ (v1_0 : Int32).toInt ≤ 16 from by omega) (hP.sub [9, 10, 0, 1, 2, 3, 4, 5, 6, 7, 8] rfl) (hD.sub [9, 10, 0, 1, 2, 3, 4, 5, 6, 7, 8] (by decide) rfl) dX1_gives_233
    · refine lv_tableIn (off := 138) (tgt := 157) hx hb dX1_gives_19 (by omega) (by omega) (by rw [g_3]; rfl) (by decide) ?_
      refine lv_iload_n hx hb dX1_gives_157 rfl (lv_at hl 3 rfl) ?_
      exact wr_i (v := w) hx hb hr hlocks hS (v1_0, v1_1) (by exact show 0 ≤ (v1_0 : Int32).toInt ∧ (v1_0 : Int32).toInt ≤ 16 from by omega) (hP.sub [9, 10, 0, 1, 2, 3, 4, 5, 6, 7, 8] rfl) (hD.sub [9, 10, 0, 1, 2, 3, 4, 5, 6, 7, 8] (by decide) rfl) dX1_gives_158
    · refine lv_tableIn (off := 140) (tgt := 159) hx hb dX1_gives_19 (by omega) (by omega) (by rw [g_3]; rfl) (by decide) ?_
      refine lv_aload_n hx hb dX1_gives_159 rfl (lv_at hl 1 rfl) ?_
      refine lv_bipush (v := 20) hx hb dX1_gives_160 (by decide) ?_
      refine lv_iload_n hx hb dX1_gives_162 rfl (lv_at hl 3 rfl) ?_
      refine lv_iload hx hb dX1_gives_163 (lv_at hl 0 rfl) ?_
      have k_14 := (g_X1_gives_1 l D cI cB cQ z H.size h nw bo nw0 nw1 nw2 nw3 nw4 nw5 nw6 nw7 v1_0 nvi nro nwa nlz nds ndy nga npa 20 w v1_1 nfw nfo nfr nfn nft nfk nfa nfb nha (by omega) (by omega) (by omega) (by omega))
      refine wc_i (WC := [(h, .inr (1, [.ref nw, .ref bo, .int v1_0])), (bo, .inl (cI, 16, .inl v1_1)), (nw, .inr (3, [.int nvi, .int nro, .int nwa, .int nlz, .int nds, .int ndy, .int nga, .int npa, .ref nw0, .ref nw1, .ref nw2, .ref nw3, .ref nw4, .ref nw5, .ref nw6, .ref nw7])), (nw0, .inl (cI, 8, .inl nfw)), (nw1, .inl (cI, 8, .inl nfo)), (nw2, .inl (cI, 8, .inl nfr)), (nw3, .inl (cI, 8, .inl nfn)), (nw4, .inl (cI, 8, .inl nft)), (nw5, .inl (cI, 3, .inl nfk)), (nw6, .inl (cI, 3, .inl nfa)), (nw7, .inl (cI, 3, .inl nfb))]) (WR := []) (va_runV (As := [.int 20, .int w, .int 1]) (rest := []) ⟨hx, hb, hml, hown, hts⟩ k_14 (cwV 3 hts gX1_gives_X1_gives rfl rfl rfl (by decide +kernel) ⟨Nat.le_of_ble_eq_true rfl, Nat.le_of_ble_eq_true rfl⟩) (wpz_V hZ hS hAb hP hK hD hN [9, 10, 0, 1, 2, 3, 4, 5, 6, 7, 8] (by decide) rfl (ci := 1) rfl rfl) rfl rfl hl.1 rfl (lv_room (Nat.le_of_ble_eq_true rfl)) dX1_gives_165 ⟨Nat.le_of_ble_eq_true rfl, Nat.le_of_ble_eq_true rfl⟩) hP hD hS hA [9, 10, 0, 1, 2, 3, 4, 5, 6, 7, 8] [] rfl rfl (by decide) (by decide) (fun r_14 u_14 H locs hw_14 hP hD hS => ?_)
      clear k_14
      obtain ⟨v14_0, v14_1⟩ := u_14
      have hP : va_P D kl [(h, .inr (1, [.ref nw, .ref bo, .int v14_0])), (bo, .inl (cI, 16, .inl v14_1)), (nw, .inr (3, [.int nvi, .int nro, .int nwa, .int nlz, .int nds, .int ndy, .int nga, .int npa, .ref nw0, .ref nw1, .ref nw2, .ref nw3, .ref nw4, .ref nw5, .ref nw6, .ref nw7])), (nw0, .inl (cI, 8, .inl nfw)), (nw1, .inl (cI, 8, .inl nfo)), (nw2, .inl (cI, 8, .inl nfr)), (nw3, .inl (cI, 8, .inl nfn)), (nw4, .inl (cI, 8, .inl nft)), (nw5, .inl (cI, 3, .inl nfk)), (nw6, .inl (cI, 3, .inl nfa)), (nw7, .inl (cI, 3, .inl nfb))] H := hP
      have hD : va_D A [(h, .inr (1, [.ref nw, .ref bo, .int v14_0])), (bo, .inl (cI, 16, .inl v14_1)), (nw, .inr (3, [.int nvi, .int nro, .int nwa, .int nlz, .int nds, .int ndy, .int nga, .int npa, .ref nw0, .ref nw1, .ref nw2, .ref nw3, .ref nw4, .ref nw5, .ref nw6, .ref nw7])), (nw0, .inl (cI, 8, .inl nfw)), (nw1, .inl (cI, 8, .inl nfo)), (nw2, .inl (cI, 8, .inl nfr)), (nw3, .inl (cI, 8, .inl nfn)), (nw4, .inl (cI, 8, .inl nft)), (nw5, .inl (cI, 3, .inl nfk)), (nw6, .inl (cI, 3, .inl nfa)), (nw7, .inl (cI, 3, .inl nfb))] := hD
      have c14_0 := hw_14
      have c14_0 : 0 ≤ v14_0.toInt ∧ v14_0.toInt ≤ 16 := c14_0
      refine lv_aload_n hx hb dX1_gives_168 rfl (lv_at hl 1 rfl) ?_
      refine va_get (D := D) (ci := 1) (v := .ref nw) (C := RX1) (T := TX1) (N := 3) hx hb hts (fun _ h => List.mem_cons_of_mem _ (List.mem_append_left _ (List.mem_append_right _ h))) hown hK hP 0 rfl rfl 0 (by decide) (hts (.fieldLink RX1 19 "WinterWalk$Asks" "land" "LWinterWalk$Land;") (List.mem_of_getElem? (i := 1) rfl)) (fun _ h9 => h9) rfl dX1_gives_169 ?_
      refine va_get (D := D) (ci := 3) (v := .ref nw1) (C := RX4) (T := TX4) (N := 16) hx hb hts (fun _ h => List.mem_cons_of_mem _ (List.mem_append_right _ h)) hown hK hP 2 rfl rfl 9 (by decide) (hts (.fieldLink RX1 62 "WinterWalk$Land" "offers" "[I") (List.mem_of_getElem? (i := 3) rfl)) (fun _ h9 => h9) rfl dX1_gives_172 ?_
      refine lv_aload_n hx hb dX1_gives_175 rfl (lv_at hl 1 rfl) ?_
      refine va_get (D := D) (ci := 1) (v := .ref nw) (C := RX1) (T := TX1) (N := 3) hx hb hts (fun _ h => List.mem_cons_of_mem _ (List.mem_append_left _ (List.mem_append_right _ h))) hown hK hP 0 rfl rfl 0 (by decide) (hts (.fieldLink RX1 19 "WinterWalk$Asks" "land" "LWinterWalk$Land;") (List.mem_of_getElem? (i := 1) rfl)) (fun _ h9 => h9) rfl dX1_gives_176 ?_
      refine va_get (D := D) (ci := 3) (v := .ref nw6) (C := RX4) (T := TX4) (N := 16) hx hb hts (fun _ h => List.mem_cons_of_mem _ (List.mem_append_right _ h)) hown hK hP 2 rfl rfl 14 (by decide) (hts (.fieldLink RX1 59 "WinterWalk$Land" "at" "[I") (List.mem_of_getElem? (i := 2) rfl)) (fun _ h9 => h9) rfl dX1_gives_179 ?_
      refine lv_iload_n hx hb dX1_gives_182 rfl (lv_at hl 3 rfl) ?_
      refine va_iald hx hb hK hP 9 0 rfl rfl (zi_in (by omega) (by omega)) dX1_gives_183 ?_
      refine lv_topi (fun x_15 ex_15 => ?_)
      have f_15 : 0 ≤ x_15.toInt ∧ x_15.toInt ≤ 7 := by rw [ex_15]; exact nha _ (zi_cl (by omega) (by omega))
      clear ex_15
      refine va_iald hx hb hK hP 4 0 rfl rfl (zi_in (by omega) (by omega)) dX1_gives_184 ?_
      refine lv_topi (fun x_16 ex_16 => ?_)
      clear ex_16
      refine lv_iadd hx hb dX1_gives_185 ?_
      refine lv_topi (fun x_17 ex_17 => ?_)
      clear ex_17
      exact wr_i (v := x_17) hx hb hr hlocks hS (v14_0, v14_1) (by exact show 0 ≤ (v14_0 : Int32).toInt ∧ (v14_0 : Int32).toInt ≤ 16 from by omega) (hP.sub [0, 1, 2, 3, 4, 5, 6, 7, 8, 9, 10] rfl) (hD.sub [0, 1, 2, 3, 4, 5, 6, 7, 8, 9, 10] (by decide) rfl) dX1_gives_186
    · refine lv_tableIn (off := 168) (tgt := 187) hx hb dX1_gives_19 (by omega) (by omega) (by rw [g_3]; rfl) (by decide) ?_
      refine lv_aload_n hx hb dX1_gives_187 rfl (lv_at hl 1 rfl) ?_
      refine lv_bipush (v := 21) hx hb dX1_gives_188 (by decide) ?_
      refine lv_iload_n hx hb dX1_gives_190 rfl (lv_at hl 3 rfl) ?_
      refine lv_iload hx hb dX1_gives_191 (lv_at hl 0 rfl) ?_
      have k_18 := (g_X1_gives_1 l D cI cB cQ z H.size h nw bo nw0 nw1 nw2 nw3 nw4 nw5 nw6 nw7 v1_0 nvi nro nwa nlz nds ndy nga npa 21 w v1_1 nfw nfo nfr nfn nft nfk nfa nfb nha (by omega) (by omega) (by omega) (by omega))
      refine wc_i (WC := [(h, .inr (1, [.ref nw, .ref bo, .int v1_0])), (bo, .inl (cI, 16, .inl v1_1)), (nw, .inr (3, [.int nvi, .int nro, .int nwa, .int nlz, .int nds, .int ndy, .int nga, .int npa, .ref nw0, .ref nw1, .ref nw2, .ref nw3, .ref nw4, .ref nw5, .ref nw6, .ref nw7])), (nw0, .inl (cI, 8, .inl nfw)), (nw1, .inl (cI, 8, .inl nfo)), (nw2, .inl (cI, 8, .inl nfr)), (nw3, .inl (cI, 8, .inl nfn)), (nw4, .inl (cI, 8, .inl nft)), (nw5, .inl (cI, 3, .inl nfk)), (nw6, .inl (cI, 3, .inl nfa)), (nw7, .inl (cI, 3, .inl nfb))]) (WR := []) (va_runV (As := [.int 21, .int w, .int 1]) (rest := []) ⟨hx, hb, hml, hown, hts⟩ k_18 (cwV 3 hts gX1_gives_X1_gives rfl rfl rfl (by decide +kernel) ⟨Nat.le_of_ble_eq_true rfl, Nat.le_of_ble_eq_true rfl⟩) (wpz_V hZ hS hAb hP hK hD hN [9, 10, 0, 1, 2, 3, 4, 5, 6, 7, 8] (by decide) rfl (ci := 1) rfl rfl) rfl rfl hl.1 rfl (lv_room (Nat.le_of_ble_eq_true rfl)) dX1_gives_193 ⟨Nat.le_of_ble_eq_true rfl, Nat.le_of_ble_eq_true rfl⟩) hP hD hS hA [9, 10, 0, 1, 2, 3, 4, 5, 6, 7, 8] [] rfl rfl (by decide) (by decide) (fun r_18 u_18 H locs hw_18 hP hD hS => ?_)
      clear k_18
      obtain ⟨v18_0, v18_1⟩ := u_18
      have hP : va_P D kl [(h, .inr (1, [.ref nw, .ref bo, .int v18_0])), (bo, .inl (cI, 16, .inl v18_1)), (nw, .inr (3, [.int nvi, .int nro, .int nwa, .int nlz, .int nds, .int ndy, .int nga, .int npa, .ref nw0, .ref nw1, .ref nw2, .ref nw3, .ref nw4, .ref nw5, .ref nw6, .ref nw7])), (nw0, .inl (cI, 8, .inl nfw)), (nw1, .inl (cI, 8, .inl nfo)), (nw2, .inl (cI, 8, .inl nfr)), (nw3, .inl (cI, 8, .inl nfn)), (nw4, .inl (cI, 8, .inl nft)), (nw5, .inl (cI, 3, .inl nfk)), (nw6, .inl (cI, 3, .inl nfa)), (nw7, .inl (cI, 3, .inl nfb))] H := hP
      have hD : va_D A [(h, .inr (1, [.ref nw, .ref bo, .int v18_0])), (bo, .inl (cI, 16, .inl v18_1)), (nw, .inr (3, [.int nvi, .int nro, .int nwa, .int nlz, .int nds, .int ndy, .int nga, .int npa, .ref nw0, .ref nw1, .ref nw2, .ref nw3, .ref nw4, .ref nw5, .ref nw6, .ref nw7])), (nw0, .inl (cI, 8, .inl nfw)), (nw1, .inl (cI, 8, .inl nfo)), (nw2, .inl (cI, 8, .inl nfr)), (nw3, .inl (cI, 8, .inl nfn)), (nw4, .inl (cI, 8, .inl nft)), (nw5, .inl (cI, 3, .inl nfk)), (nw6, .inl (cI, 3, .inl nfa)), (nw7, .inl (cI, 3, .inl nfb))] := hD
      have c18_0 := hw_18
      have c18_0 : 0 ≤ v18_0.toInt ∧ v18_0.toInt ≤ 16 := c18_0
      refine lv_sipush (v := 1000) hx hb dX1_gives_196 (by decide) ?_
      refine lv_isub hx hb dX1_gives_199 ?_
      refine lv_topi (fun x_19 ex_19 => ?_)
      clear ex_19
      exact wr_i (v := x_19) hx hb hr hlocks hS (v18_0, v18_1) (by exact show 0 ≤ (v18_0 : Int32).toInt ∧ (v18_0 : Int32).toInt ≤ 16 from by omega) (hP.sub [0, 1, 2, 3, 4, 5, 6, 7, 8, 9, 10] rfl) (hD.sub [0, 1, 2, 3, 4, 5, 6, 7, 8, 9, 10] (by decide) rfl) dX1_gives_200
    · refine lv_tableIn (off := 182) (tgt := 201) hx hb dX1_gives_19 (by omega) (by omega) (by rw [g_3]; rfl) (by decide) ?_
      refine lv_aload_n hx hb dX1_gives_201 rfl (lv_at hl 1 rfl) ?_
      refine lv_bipush (v := 20) hx hb dX1_gives_202 (by decide) ?_
      refine lv_iload_n hx hb dX1_gives_204 rfl (lv_at hl 3 rfl) ?_
      refine lv_iload hx hb dX1_gives_205 (lv_at hl 0 rfl) ?_
      have k_20 := (g_X1_gives_1 l D cI cB cQ z H.size h nw bo nw0 nw1 nw2 nw3 nw4 nw5 nw6 nw7 v1_0 nvi nro nwa nlz nds ndy nga npa 20 w v1_1 nfw nfo nfr nfn nft nfk nfa nfb nha (by omega) (by omega) (by omega) (by omega))
      refine wc_i (WC := [(h, .inr (1, [.ref nw, .ref bo, .int v1_0])), (bo, .inl (cI, 16, .inl v1_1)), (nw, .inr (3, [.int nvi, .int nro, .int nwa, .int nlz, .int nds, .int ndy, .int nga, .int npa, .ref nw0, .ref nw1, .ref nw2, .ref nw3, .ref nw4, .ref nw5, .ref nw6, .ref nw7])), (nw0, .inl (cI, 8, .inl nfw)), (nw1, .inl (cI, 8, .inl nfo)), (nw2, .inl (cI, 8, .inl nfr)), (nw3, .inl (cI, 8, .inl nfn)), (nw4, .inl (cI, 8, .inl nft)), (nw5, .inl (cI, 3, .inl nfk)), (nw6, .inl (cI, 3, .inl nfa)), (nw7, .inl (cI, 3, .inl nfb))]) (WR := []) (va_runV (As := [.int 20, .int w, .int 1]) (rest := []) ⟨hx, hb, hml, hown, hts⟩ k_20 (cwV 3 hts gX1_gives_X1_gives rfl rfl rfl (by decide +kernel) ⟨Nat.le_of_ble_eq_true rfl, Nat.le_of_ble_eq_true rfl⟩) (wpz_V hZ hS hAb hP hK hD hN [9, 10, 0, 1, 2, 3, 4, 5, 6, 7, 8] (by decide) rfl (ci := 1) rfl rfl) rfl rfl hl.1 rfl (lv_room (Nat.le_of_ble_eq_true rfl)) dX1_gives_207 ⟨Nat.le_of_ble_eq_true rfl, Nat.le_of_ble_eq_true rfl⟩) hP hD hS hA [9, 10, 0, 1, 2, 3, 4, 5, 6, 7, 8] [] rfl rfl (by decide) (by decide) (fun r_20 u_20 H locs hw_20 hP hD hS => ?_)
      clear k_20
      obtain ⟨v20_0, v20_1⟩ := u_20
      have hP : va_P D kl [(h, .inr (1, [.ref nw, .ref bo, .int v20_0])), (bo, .inl (cI, 16, .inl v20_1)), (nw, .inr (3, [.int nvi, .int nro, .int nwa, .int nlz, .int nds, .int ndy, .int nga, .int npa, .ref nw0, .ref nw1, .ref nw2, .ref nw3, .ref nw4, .ref nw5, .ref nw6, .ref nw7])), (nw0, .inl (cI, 8, .inl nfw)), (nw1, .inl (cI, 8, .inl nfo)), (nw2, .inl (cI, 8, .inl nfr)), (nw3, .inl (cI, 8, .inl nfn)), (nw4, .inl (cI, 8, .inl nft)), (nw5, .inl (cI, 3, .inl nfk)), (nw6, .inl (cI, 3, .inl nfa)), (nw7, .inl (cI, 3, .inl nfb))] H := hP
      have hD : va_D A [(h, .inr (1, [.ref nw, .ref bo, .int v20_0])), (bo, .inl (cI, 16, .inl v20_1)), (nw, .inr (3, [.int nvi, .int nro, .int nwa, .int nlz, .int nds, .int ndy, .int nga, .int npa, .ref nw0, .ref nw1, .ref nw2, .ref nw3, .ref nw4, .ref nw5, .ref nw6, .ref nw7])), (nw0, .inl (cI, 8, .inl nfw)), (nw1, .inl (cI, 8, .inl nfo)), (nw2, .inl (cI, 8, .inl nfr)), (nw3, .inl (cI, 8, .inl nfn)), (nw4, .inl (cI, 8, .inl nft)), (nw5, .inl (cI, 3, .inl nfk)), (nw6, .inl (cI, 3, .inl nfa)), (nw7, .inl (cI, 3, .inl nfb))] := hD
      have c20_0 := hw_20
      have c20_0 : 0 ≤ v20_0.toInt ∧ v20_0.toInt ≤ 16 := c20_0
      refine lv_aload_n hx hb dX1_gives_210 rfl (lv_at hl 1 rfl) ?_
      refine lv_iload_n hx hb dX1_gives_211 rfl (lv_at hl 3 rfl) ?_
      refine lv_iconst (v := 0) hx hb dX1_gives_212 (by decide) ?_
      refine lv_iload hx hb dX1_gives_213 (lv_at hl 0 rfl) ?_
      have k_21 := (g_X1_asked_1 l D cI cB cQ z H.size h nw bo nw0 nw1 nw2 nw3 nw4 nw5 nw6 nw7 v20_0 nvi nro nwa nlz nds ndy nga npa w 0 v20_1 nfw nfo nfr nfn nft nfk nfa nfb nha (by omega) (by omega) (by omega) (by omega))
      refine wc_i (WC := [(h, .inr (1, [.ref nw, .ref bo, .int v20_0])), (bo, .inl (cI, 16, .inl v20_1)), (nw, .inr (3, [.int nvi, .int nro, .int nwa, .int nlz, .int nds, .int ndy, .int nga, .int npa, .ref nw0, .ref nw1, .ref nw2, .ref nw3, .ref nw4, .ref nw5, .ref nw6, .ref nw7])), (nw0, .inl (cI, 8, .inl nfw)), (nw1, .inl (cI, 8, .inl nfo)), (nw2, .inl (cI, 8, .inl nfr)), (nw3, .inl (cI, 8, .inl nfn)), (nw4, .inl (cI, 8, .inl nft)), (nw5, .inl (cI, 3, .inl nfk)), (nw6, .inl (cI, 3, .inl nfa)), (nw7, .inl (cI, 3, .inl nfb))]) (WR := []) (va_runV (As := [.int w, .int 0, .int 1]) (rest := [.int r_20]) ⟨hx, hb, hml, hown, hts⟩ k_21 (cwV 3 hts gX1_gives_X1_asked rfl rfl rfl (by decide +kernel) ⟨Nat.le_of_ble_eq_true rfl, Nat.le_of_ble_eq_true rfl⟩) (wpz_V hZ hS hAb hP hK hD hN [0, 1, 2, 3, 4, 5, 6, 7, 8, 9, 10] (by decide) rfl (ci := 1) rfl rfl) rfl rfl hl.1 rfl (lv_room (Nat.le_of_ble_eq_true rfl)) dX1_gives_215 ⟨Nat.le_of_ble_eq_true rfl, Nat.le_of_ble_eq_true rfl⟩) hP hD hS hA [0, 1, 2, 3, 4, 5, 6, 7, 8, 9, 10] [] rfl rfl (by decide) (by decide) (fun r_21 u_21 H locs hw_21 hP hD hS => ?_)
      clear k_21
      obtain ⟨v21_0, v21_1⟩ := u_21
      have hP : va_P D kl [(h, .inr (1, [.ref nw, .ref bo, .int v21_0])), (bo, .inl (cI, 16, .inl v21_1)), (nw, .inr (3, [.int nvi, .int nro, .int nwa, .int nlz, .int nds, .int ndy, .int nga, .int npa, .ref nw0, .ref nw1, .ref nw2, .ref nw3, .ref nw4, .ref nw5, .ref nw6, .ref nw7])), (nw0, .inl (cI, 8, .inl nfw)), (nw1, .inl (cI, 8, .inl nfo)), (nw2, .inl (cI, 8, .inl nfr)), (nw3, .inl (cI, 8, .inl nfn)), (nw4, .inl (cI, 8, .inl nft)), (nw5, .inl (cI, 3, .inl nfk)), (nw6, .inl (cI, 3, .inl nfa)), (nw7, .inl (cI, 3, .inl nfb))] H := hP
      have hD : va_D A [(h, .inr (1, [.ref nw, .ref bo, .int v21_0])), (bo, .inl (cI, 16, .inl v21_1)), (nw, .inr (3, [.int nvi, .int nro, .int nwa, .int nlz, .int nds, .int ndy, .int nga, .int npa, .ref nw0, .ref nw1, .ref nw2, .ref nw3, .ref nw4, .ref nw5, .ref nw6, .ref nw7])), (nw0, .inl (cI, 8, .inl nfw)), (nw1, .inl (cI, 8, .inl nfo)), (nw2, .inl (cI, 8, .inl nfr)), (nw3, .inl (cI, 8, .inl nfn)), (nw4, .inl (cI, 8, .inl nft)), (nw5, .inl (cI, 3, .inl nfk)), (nw6, .inl (cI, 3, .inl nfa)), (nw7, .inl (cI, 3, .inl nfb))] := hD
      have c21_0 := hw_21
      have c21_0 : 0 ≤ v21_0.toInt ∧ v21_0.toInt ≤ 16 := c21_0
      refine lv_isub hx hb dX1_gives_218 ?_
      refine lv_topi (fun x_22 ex_22 => ?_)
      clear ex_22
      exact wr_i (v := x_22) hx hb hr hlocks hS (v21_0, v21_1) (by exact show 0 ≤ (v21_0 : Int32).toInt ∧ (v21_0 : Int32).toInt ≤ 16 from by omega) (hP.sub [0, 1, 2, 3, 4, 5, 6, 7, 8, 9, 10] rfl) (hD.sub [0, 1, 2, 3, 4, 5, 6, 7, 8, 9, 10] (by decide) rfl) dX1_gives_219
    · refine lv_tableIn (off := 201) (tgt := 220) hx hb dX1_gives_19 (by omega) (by omega) (by rw [g_3]; rfl) (by decide) ?_
      refine lv_iconst (v := 2) hx hb dX1_gives_220 (by decide) ?_
      refine lv_aload_n hx hb dX1_gives_221 rfl (lv_at hl 1 rfl) ?_
      refine lv_bipush (v := 21) hx hb dX1_gives_222 (by decide) ?_
      refine lv_iload_n hx hb dX1_gives_224 rfl (lv_at hl 3 rfl) ?_
      refine lv_iload hx hb dX1_gives_225 (lv_at hl 0 rfl) ?_
      have k_23 := (g_X1_gives_1 l D cI cB cQ z H.size h nw bo nw0 nw1 nw2 nw3 nw4 nw5 nw6 nw7 v1_0 nvi nro nwa nlz nds ndy nga npa 21 w v1_1 nfw nfo nfr nfn nft nfk nfa nfb nha (by omega) (by omega) (by omega) (by omega))
      refine wc_i (WC := [(h, .inr (1, [.ref nw, .ref bo, .int v1_0])), (bo, .inl (cI, 16, .inl v1_1)), (nw, .inr (3, [.int nvi, .int nro, .int nwa, .int nlz, .int nds, .int ndy, .int nga, .int npa, .ref nw0, .ref nw1, .ref nw2, .ref nw3, .ref nw4, .ref nw5, .ref nw6, .ref nw7])), (nw0, .inl (cI, 8, .inl nfw)), (nw1, .inl (cI, 8, .inl nfo)), (nw2, .inl (cI, 8, .inl nfr)), (nw3, .inl (cI, 8, .inl nfn)), (nw4, .inl (cI, 8, .inl nft)), (nw5, .inl (cI, 3, .inl nfk)), (nw6, .inl (cI, 3, .inl nfa)), (nw7, .inl (cI, 3, .inl nfb))]) (WR := []) (va_runV (As := [.int 21, .int w, .int 1]) (rest := [.int 2]) ⟨hx, hb, hml, hown, hts⟩ k_23 (cwV 3 hts gX1_gives_X1_gives rfl rfl rfl (by decide +kernel) ⟨Nat.le_of_ble_eq_true rfl, Nat.le_of_ble_eq_true rfl⟩) (wpz_V hZ hS hAb hP hK hD hN [9, 10, 0, 1, 2, 3, 4, 5, 6, 7, 8] (by decide) rfl (ci := 1) rfl rfl) rfl rfl hl.1 rfl (lv_room (Nat.le_of_ble_eq_true rfl)) dX1_gives_227 ⟨Nat.le_of_ble_eq_true rfl, Nat.le_of_ble_eq_true rfl⟩) hP hD hS hA [9, 10, 0, 1, 2, 3, 4, 5, 6, 7, 8] [] rfl rfl (by decide) (by decide) (fun r_23 u_23 H locs hw_23 hP hD hS => ?_)
      clear k_23
      obtain ⟨v23_0, v23_1⟩ := u_23
      have hP : va_P D kl [(h, .inr (1, [.ref nw, .ref bo, .int v23_0])), (bo, .inl (cI, 16, .inl v23_1)), (nw, .inr (3, [.int nvi, .int nro, .int nwa, .int nlz, .int nds, .int ndy, .int nga, .int npa, .ref nw0, .ref nw1, .ref nw2, .ref nw3, .ref nw4, .ref nw5, .ref nw6, .ref nw7])), (nw0, .inl (cI, 8, .inl nfw)), (nw1, .inl (cI, 8, .inl nfo)), (nw2, .inl (cI, 8, .inl nfr)), (nw3, .inl (cI, 8, .inl nfn)), (nw4, .inl (cI, 8, .inl nft)), (nw5, .inl (cI, 3, .inl nfk)), (nw6, .inl (cI, 3, .inl nfa)), (nw7, .inl (cI, 3, .inl nfb))] H := hP
      have hD : va_D A [(h, .inr (1, [.ref nw, .ref bo, .int v23_0])), (bo, .inl (cI, 16, .inl v23_1)), (nw, .inr (3, [.int nvi, .int nro, .int nwa, .int nlz, .int nds, .int ndy, .int nga, .int npa, .ref nw0, .ref nw1, .ref nw2, .ref nw3, .ref nw4, .ref nw5, .ref nw6, .ref nw7])), (nw0, .inl (cI, 8, .inl nfw)), (nw1, .inl (cI, 8, .inl nfo)), (nw2, .inl (cI, 8, .inl nfr)), (nw3, .inl (cI, 8, .inl nfn)), (nw4, .inl (cI, 8, .inl nft)), (nw5, .inl (cI, 3, .inl nfk)), (nw6, .inl (cI, 3, .inl nfa)), (nw7, .inl (cI, 3, .inl nfb))] := hD
      have c23_0 := hw_23
      have c23_0 : 0 ≤ v23_0.toInt ∧ v23_0.toInt ≤ 16 := c23_0
      refine lv_imul hx hb dX1_gives_230 ?_
      refine lv_topi (fun x_24 ex_24 => ?_)
      clear ex_24
      exact wr_i (v := x_24) hx hb hr hlocks hS (v23_0, v23_1) (by exact show 0 ≤ (v23_0 : Int32).toInt ∧ (v23_0 : Int32).toInt ≤ 16 from by omega) (hP.sub [0, 1, 2, 3, 4, 5, 6, 7, 8, 9, 10] rfl) (hD.sub [0, 1, 2, 3, 4, 5, 6, 7, 8, 9, 10] (by decide) rfl) dX1_gives_231
set_option maxHeartbeats 4000000 in
set_option maxRecDepth 100000 in
theorem g_X1_asked_0 (l : Launch) (D : va_G) (cI cB cQ : ClassId) (z : ZT) (sz : Nat) (h : Nat) (nw : Nat) (bo : Nat) (nw0 : Nat) (nw1 : Nat) (nw2 : Nat) (nw3 : Nat) (nw4 : Nat) (nw5 : Nat) (nw6 : Nat) (nw7 : Nat) (tc : Int32) (nvi : Int32) (nro : Int32) (nwa : Int32) (nlz : Int32) (nds : Int32) (ndy : Int32) (nga : Int32) (npa : Int32) (w : Int32) (k : Int32) (bf : Nat → Int32) (nfw : Nat → Int32) (nfo : Nat → Int32) (nfr : Nat → Int32) (nfn : Nat → Int32) (nft : Nat → Int32) (nfk : Nat → Int32) (nfa : Nat → Int32) (nfb : Nat → Int32) (nha : ∀ j, j < 3 → 0 ≤ (nfa j).toInt ∧ (nfa j).toInt ≤ 7) (h_tc : 0 ≤ tc.toInt ∧ tc.toInt ≤ 16) (h_nvi : 0 ≤ nvi.toInt ∧ nvi.toInt ≤ 8) (h_nwa : 0 ≤ nwa.toInt ∧ nwa.toInt ≤ 3) (h_w : 0 ≤ w.toInt ∧ w.toInt ≤ 2) : miz l yX1_asked wsX1_asked ({ frames := 21, cells := 0, slots := 0, locals := 489 }) z D cI cB cQ [.ref h, .int w, .int k, .int 0] sz [(h, .inr (1, [.ref nw, .ref bo, .int tc])), (bo, .inl (cI, 16, .inl bf)), (nw, .inr (3, [.int nvi, .int nro, .int nwa, .int nlz, .int nds, .int ndy, .int nga, .int npa, .ref nw0, .ref nw1, .ref nw2, .ref nw3, .ref nw4, .ref nw5, .ref nw6, .ref nw7])), (nw0, .inl (cI, 8, .inl nfw)), (nw1, .inl (cI, 8, .inl nfo)), (nw2, .inl (cI, 8, .inl nfr)), (nw3, .inl (cI, 8, .inl nfn)), (nw4, .inl (cI, 8, .inl nft)), (nw5, .inl (cI, 3, .inl nfk)), (nw6, .inl (cI, 3, .inl nfa)), (nw7, .inl (cI, 3, .inl nfb))] (fun (r : Int32) (u : Int32 × (Nat → Int32)) => (0 ≤ u.1.toInt ∧ u.1.toInt ≤ 16)) (fun u => [(h, .inr (1, [.ref nw, .ref bo, .int u.1])), (bo, .inl (cI, 16, .inl u.2)), (nw, .inr (3, [.int nvi, .int nro, .int nwa, .int nlz, .int nds, .int ndy, .int nga, .int npa, .ref nw0, .ref nw1, .ref nw2, .ref nw3, .ref nw4, .ref nw5, .ref nw6, .ref nw7])), (nw0, .inl (cI, 8, .inl nfw)), (nw1, .inl (cI, 8, .inl nfo)), (nw2, .inl (cI, 8, .inl nfr)), (nw3, .inl (cI, 8, .inl nfn)), (nw4, .inl (cI, 8, .inl nft)), (nw5, .inl (cI, 3, .inl nfk)), (nw6, .inl (cI, 3, .inl nfa)), (nw7, .inl (cI, 3, .inl nfb))]) 0 0 := by
  refine wm_z (cc := cX1_asked) (maxL := 4) (ret := (some .int)) (by decide) rfl (Nat.le_of_ble_eq_true rfl) ?_
  intro p e s m below meth c A ls hZ hAb hx hb hr hml hown hts hlocks hin hP hK hD hN hA hl hS
  have hown : s.vm.findClass RX1 = some m.cls := hown
  have hl : lv_has ls 4 [(0, .ref h), (1, .int w), (2, .int k), (3, .int 0)] := hl
  change W p l e ({ frames := 21, cells := 0, slots := 0, locals := 489 }) s m ([.ref h, .int w, .int k, .int 0] : List Value).toArray below meth c s.heap [] 0 0 (MQ below (va_Qi (fun (r : Int32) (u : Int32 × (Nat → Int32)) => (0 ≤ u.1.toInt ∧ u.1.toInt ≤ 16)) (fun u t => wb D A ((fun u => [(h, .inr (1, [.ref nw, .ref bo, .int u.1])), (bo, .inl (cI, 16, .inl u.2)), (nw, .inr (3, [.int nvi, .int nro, .int nwa, .int nlz, .int nds, .int ndy, .int nga, .int npa, .ref nw0, .ref nw1, .ref nw2, .ref nw3, .ref nw4, .ref nw5, .ref nw6, .ref nw7])), (nw0, .inl (cI, 8, .inl nfw)), (nw1, .inl (cI, 8, .inl nfo)), (nw2, .inl (cI, 8, .inl nfr)), (nw3, .inl (cI, 8, .inl nfn)), (nw4, .inl (cI, 8, .inl nft)), (nw5, .inl (cI, 3, .inl nfk)), (nw6, .inl (cI, 3, .inl nfa)), (nw7, .inl (cI, 3, .inl nfb))]) u) t) A) ([.ref h, .int w, .int k, .int 0] : List Value).toArray s 0 0 A) (F0 m 0 ls [])
  refine lv_aload_n hx hb dX1_asked_0 rfl (lv_at hl 0 rfl) ?_
  refine lv_aload_n hx hb dX1_asked_1 rfl (lv_at hl 0 rfl) ?_
  refine va_get (D := D) (ci := 1) (v := .ref nw) (C := RX1) (T := TX1) (N := 3) hx hb hts (fun _ h => List.mem_cons_of_mem _ (List.mem_append_left _ (List.mem_append_right _ h))) hown hK hP 0 rfl rfl 0 (by decide) (hts (.fieldLink RX1 19 "WinterWalk$Asks" "land" "LWinterWalk$Land;") (List.mem_of_getElem? (i := 1) rfl)) (fun _ h9 => h9) rfl dX1_asked_2 ?_
  refine va_get (D := D) (ci := 3) (v := .ref nw5) (C := RX4) (T := TX4) (N := 16) hx hb hts (fun _ h => List.mem_cons_of_mem _ (List.mem_append_right _ h)) hown hK hP 2 rfl rfl 13 (by decide) (hts (.fieldLink RX1 27 "WinterWalk$Land" "kinds" "[I") (List.mem_of_getElem? (i := 2) rfl)) (fun _ h9 => h9) rfl dX1_asked_5 ?_
  refine lv_iload_n hx hb dX1_asked_8 rfl (lv_at hl 1 rfl) ?_
  refine va_iald hx hb hK hP 8 0 rfl rfl (zi_in (by omega) (by omega)) dX1_asked_9 ?_
  refine lv_topi (fun x_1 ex_1 => ?_)
  clear ex_1
  refine lv_iload_n hx hb dX1_asked_10 rfl (lv_at hl 2 rfl) ?_
  have k_2 := (g_X1_bodyFor l D cI cB cQ z s.heap.size x_1 k)
  refine wc_i (WC := []) (WR := [(h, .inr (1, [.ref nw, .ref bo, .int tc])), (bo, .inl (cI, 16, .inl bf)), (nw, .inr (3, [.int nvi, .int nro, .int nwa, .int nlz, .int nds, .int ndy, .int nga, .int npa, .ref nw0, .ref nw1, .ref nw2, .ref nw3, .ref nw4, .ref nw5, .ref nw6, .ref nw7])), (nw0, .inl (cI, 8, .inl nfw)), (nw1, .inl (cI, 8, .inl nfo)), (nw2, .inl (cI, 8, .inl nfr)), (nw3, .inl (cI, 8, .inl nfn)), (nw4, .inl (cI, 8, .inl nft)), (nw5, .inl (cI, 3, .inl nfk)), (nw6, .inl (cI, 3, .inl nfa)), (nw7, .inl (cI, 3, .inl nfb))]) (va_runS (As := [.int x_1, .int k]) (rest := [.ref h]) ⟨hx, hb, hml, hown, hts⟩ k_2 (va_cwS 2 hts gX1_asked_X1_bodyFor rfl rfl rfl (by decide +kernel) ⟨Nat.le_of_ble_eq_true rfl, Nat.le_of_ble_eq_true rfl⟩) (wpz_S hZ hS hAb hP hK hD hN [] (by decide) rfl) rfl rfl hl.1 rfl (lv_room (Nat.le_of_ble_eq_true rfl)) dX1_asked_11 ⟨Nat.le_of_ble_eq_true rfl, Nat.le_of_ble_eq_true rfl⟩) hP hD hS hA [] [0, 1, 2, 3, 4, 5, 6, 7, 8, 9, 10] rfl rfl (by decide) (by decide) (fun r_2 u_2 H locs hw_2 hP hD hS => ?_)
  clear k_2
  have hP : va_P D kl [(h, .inr (1, [.ref nw, .ref bo, .int tc])), (bo, .inl (cI, 16, .inl bf)), (nw, .inr (3, [.int nvi, .int nro, .int nwa, .int nlz, .int nds, .int ndy, .int nga, .int npa, .ref nw0, .ref nw1, .ref nw2, .ref nw3, .ref nw4, .ref nw5, .ref nw6, .ref nw7])), (nw0, .inl (cI, 8, .inl nfw)), (nw1, .inl (cI, 8, .inl nfo)), (nw2, .inl (cI, 8, .inl nfr)), (nw3, .inl (cI, 8, .inl nfn)), (nw4, .inl (cI, 8, .inl nft)), (nw5, .inl (cI, 3, .inl nfk)), (nw6, .inl (cI, 3, .inl nfa)), (nw7, .inl (cI, 3, .inl nfb))] H := hP
  have hD : va_D A [(h, .inr (1, [.ref nw, .ref bo, .int tc])), (bo, .inl (cI, 16, .inl bf)), (nw, .inr (3, [.int nvi, .int nro, .int nwa, .int nlz, .int nds, .int ndy, .int nga, .int npa, .ref nw0, .ref nw1, .ref nw2, .ref nw3, .ref nw4, .ref nw5, .ref nw6, .ref nw7])), (nw0, .inl (cI, 8, .inl nfw)), (nw1, .inl (cI, 8, .inl nfo)), (nw2, .inl (cI, 8, .inl nfr)), (nw3, .inl (cI, 8, .inl nfn)), (nw4, .inl (cI, 8, .inl nft)), (nw5, .inl (cI, 3, .inl nfk)), (nw6, .inl (cI, 3, .inl nfa)), (nw7, .inl (cI, 3, .inl nfb))] := hD
  clear hw_2
  refine lv_iload_n hx hb dX1_asked_14 rfl (lv_at hl 1 rfl) ?_
  refine lv_iload_n hx hb dX1_asked_15 rfl (lv_at hl 3 rfl) ?_
  have k_3 := (g_X1_gives_0 l D cI cB cQ z H.size h nw bo nw0 nw1 nw2 nw3 nw4 nw5 nw6 nw7 tc nvi nro nwa nlz nds ndy nga npa r_2 w bf nfw nfo nfr nfn nft nfk nfa nfb nha (by omega) (by omega) (by omega) (by omega))
  refine wc_i (WC := [(h, .inr (1, [.ref nw, .ref bo, .int tc])), (bo, .inl (cI, 16, .inl bf)), (nw, .inr (3, [.int nvi, .int nro, .int nwa, .int nlz, .int nds, .int ndy, .int nga, .int npa, .ref nw0, .ref nw1, .ref nw2, .ref nw3, .ref nw4, .ref nw5, .ref nw6, .ref nw7])), (nw0, .inl (cI, 8, .inl nfw)), (nw1, .inl (cI, 8, .inl nfo)), (nw2, .inl (cI, 8, .inl nfr)), (nw3, .inl (cI, 8, .inl nfn)), (nw4, .inl (cI, 8, .inl nft)), (nw5, .inl (cI, 3, .inl nfk)), (nw6, .inl (cI, 3, .inl nfa)), (nw7, .inl (cI, 3, .inl nfb))]) (WR := []) (va_runV (As := [.int r_2, .int w, .int 0]) (rest := []) ⟨hx, hb, hml, hown, hts⟩ k_3 (cwV 3 hts gX1_asked_X1_gives rfl rfl rfl (by decide +kernel) ⟨Nat.le_of_ble_eq_true rfl, Nat.le_of_ble_eq_true rfl⟩) (wpz_V hZ hS hAb hP hK hD hN [0, 1, 2, 3, 4, 5, 6, 7, 8, 9, 10] (by decide) rfl (ci := 1) rfl rfl) rfl rfl hl.1 rfl (lv_room (Nat.le_of_ble_eq_true rfl)) dX1_asked_16 ⟨Nat.le_of_ble_eq_true rfl, Nat.le_of_ble_eq_true rfl⟩) hP hD hS hA [0, 1, 2, 3, 4, 5, 6, 7, 8, 9, 10] [] rfl rfl (by decide) (by decide) (fun r_3 u_3 H locs hw_3 hP hD hS => ?_)
  clear k_3
  obtain ⟨v3_0, v3_1⟩ := u_3
  have hP : va_P D kl [(h, .inr (1, [.ref nw, .ref bo, .int v3_0])), (bo, .inl (cI, 16, .inl v3_1)), (nw, .inr (3, [.int nvi, .int nro, .int nwa, .int nlz, .int nds, .int ndy, .int nga, .int npa, .ref nw0, .ref nw1, .ref nw2, .ref nw3, .ref nw4, .ref nw5, .ref nw6, .ref nw7])), (nw0, .inl (cI, 8, .inl nfw)), (nw1, .inl (cI, 8, .inl nfo)), (nw2, .inl (cI, 8, .inl nfr)), (nw3, .inl (cI, 8, .inl nfn)), (nw4, .inl (cI, 8, .inl nft)), (nw5, .inl (cI, 3, .inl nfk)), (nw6, .inl (cI, 3, .inl nfa)), (nw7, .inl (cI, 3, .inl nfb))] H := hP
  have hD : va_D A [(h, .inr (1, [.ref nw, .ref bo, .int v3_0])), (bo, .inl (cI, 16, .inl v3_1)), (nw, .inr (3, [.int nvi, .int nro, .int nwa, .int nlz, .int nds, .int ndy, .int nga, .int npa, .ref nw0, .ref nw1, .ref nw2, .ref nw3, .ref nw4, .ref nw5, .ref nw6, .ref nw7])), (nw0, .inl (cI, 8, .inl nfw)), (nw1, .inl (cI, 8, .inl nfo)), (nw2, .inl (cI, 8, .inl nfr)), (nw3, .inl (cI, 8, .inl nfn)), (nw4, .inl (cI, 8, .inl nft)), (nw5, .inl (cI, 3, .inl nfk)), (nw6, .inl (cI, 3, .inl nfa)), (nw7, .inl (cI, 3, .inl nfb))] := hD
  have c3_0 := hw_3
  have c3_0 : 0 ≤ v3_0.toInt ∧ v3_0.toInt ≤ 16 := c3_0
  exact wr_i (v := r_3) hx hb hr hlocks hS (v3_0, v3_1) (by exact show 0 ≤ (v3_0 : Int32).toInt ∧ (v3_0 : Int32).toInt ≤ 16 from by omega) (hP.sub [0, 1, 2, 3, 4, 5, 6, 7, 8, 9, 10] rfl) (hD.sub [0, 1, 2, 3, 4, 5, 6, 7, 8, 9, 10] (by decide) rfl) dX1_asked_19
set_option maxHeartbeats 4000000 in
set_option maxRecDepth 100000 in
theorem g_X1_answer (l : Launch) (D : va_G) (cI cB cQ : ClassId) (z : ZT) (sz : Nat) (h : Nat) (nw : Nat) (bo : Nat) (nw0 : Nat) (nw1 : Nat) (nw2 : Nat) (nw3 : Nat) (nw4 : Nat) (nw5 : Nat) (nw6 : Nat) (nw7 : Nat) (tc : Int32) (nvi : Int32) (nro : Int32) (nwa : Int32) (nlz : Int32) (nds : Int32) (ndy : Int32) (nga : Int32) (npa : Int32) (w : Int32) (k : Int32) (bf : Nat → Int32) (nfw : Nat → Int32) (nfo : Nat → Int32) (nfr : Nat → Int32) (nfn : Nat → Int32) (nft : Nat → Int32) (nfk : Nat → Int32) (nfa : Nat → Int32) (nfb : Nat → Int32) (nha : ∀ j, j < 3 → 0 ≤ (nfa j).toInt ∧ (nfa j).toInt ≤ 7) (h_tc : 0 ≤ tc.toInt ∧ tc.toInt ≤ 16) (h_nvi : 0 ≤ nvi.toInt ∧ nvi.toInt ≤ 8) (h_nwa : 0 ≤ nwa.toInt ∧ nwa.toInt ≤ 3) (h_w : 0 ≤ w.toInt ∧ w.toInt ≤ 2) : miz l yX1_answer wsX1_answer ({ frames := 22, cells := 0, slots := 0, locals := 512 }) z D cI cB cQ [.ref h, .int w, .int k] sz [(h, .inr (1, [.ref nw, .ref bo, .int tc])), (bo, .inl (cI, 16, .inl bf)), (nw, .inr (3, [.int nvi, .int nro, .int nwa, .int nlz, .int nds, .int ndy, .int nga, .int npa, .ref nw0, .ref nw1, .ref nw2, .ref nw3, .ref nw4, .ref nw5, .ref nw6, .ref nw7])), (nw0, .inl (cI, 8, .inl nfw)), (nw1, .inl (cI, 8, .inl nfo)), (nw2, .inl (cI, 8, .inl nfr)), (nw3, .inl (cI, 8, .inl nfn)), (nw4, .inl (cI, 8, .inl nft)), (nw5, .inl (cI, 3, .inl nfk)), (nw6, .inl (cI, 3, .inl nfa)), (nw7, .inl (cI, 3, .inl nfb))] (fun (r : Int32) (u : Int32 × (Nat → Int32)) => (0 ≤ u.1.toInt ∧ u.1.toInt ≤ 16)) (fun u => [(h, .inr (1, [.ref nw, .ref bo, .int u.1])), (bo, .inl (cI, 16, .inl u.2)), (nw, .inr (3, [.int nvi, .int nro, .int nwa, .int nlz, .int nds, .int ndy, .int nga, .int npa, .ref nw0, .ref nw1, .ref nw2, .ref nw3, .ref nw4, .ref nw5, .ref nw6, .ref nw7])), (nw0, .inl (cI, 8, .inl nfw)), (nw1, .inl (cI, 8, .inl nfo)), (nw2, .inl (cI, 8, .inl nfr)), (nw3, .inl (cI, 8, .inl nfn)), (nw4, .inl (cI, 8, .inl nft)), (nw5, .inl (cI, 3, .inl nfk)), (nw6, .inl (cI, 3, .inl nfa)), (nw7, .inl (cI, 3, .inl nfb))]) 0 0 := by
  refine wm_z (cc := cX1_answer) (maxL := 3) (ret := (some .int)) (by decide) rfl (Nat.le_of_ble_eq_true rfl) ?_
  intro p e s m below meth c A ls hZ hAb hx hb hr hml hown hts hlocks hin hP hK hD hN hA hl hS
  have hown : s.vm.findClass RX1 = some m.cls := hown
  have hl : lv_has ls 3 [(0, .ref h), (1, .int w), (2, .int k)] := hl
  change W p l e ({ frames := 22, cells := 0, slots := 0, locals := 512 }) s m ([.ref h, .int w, .int k] : List Value).toArray below meth c s.heap [] 0 0 (MQ below (va_Qi (fun (r : Int32) (u : Int32 × (Nat → Int32)) => (0 ≤ u.1.toInt ∧ u.1.toInt ≤ 16)) (fun u t => wb D A ((fun u => [(h, .inr (1, [.ref nw, .ref bo, .int u.1])), (bo, .inl (cI, 16, .inl u.2)), (nw, .inr (3, [.int nvi, .int nro, .int nwa, .int nlz, .int nds, .int ndy, .int nga, .int npa, .ref nw0, .ref nw1, .ref nw2, .ref nw3, .ref nw4, .ref nw5, .ref nw6, .ref nw7])), (nw0, .inl (cI, 8, .inl nfw)), (nw1, .inl (cI, 8, .inl nfo)), (nw2, .inl (cI, 8, .inl nfr)), (nw3, .inl (cI, 8, .inl nfn)), (nw4, .inl (cI, 8, .inl nft)), (nw5, .inl (cI, 3, .inl nfk)), (nw6, .inl (cI, 3, .inl nfa)), (nw7, .inl (cI, 3, .inl nfb))]) u) t) A) ([.ref h, .int w, .int k] : List Value).toArray s 0 0 A) (F0 m 0 ls [])
  refine lv_aload_n hx hb dX1_answer_0 rfl (lv_at hl 0 rfl) ?_
  refine lv_iconst (v := 0) hx hb dX1_answer_1 (by decide) ?_
  refine va_put (D := D) (ci := 1) (v := .int 0) (ty := .int) (C := RX1) (T := TX1) (N := 3) hx hb hts (fun _ h => List.mem_cons_of_mem _ (List.mem_append_left _ (List.mem_append_right _ h))) tyX1 tyX1_ok nmX1 hown hK hP hD hS 0 rfl rfl 2 (by decide) (hts (.fieldLink RX1 15 "WinterWalk$Asks" "traced" "I") (List.mem_of_getElem? (i := 1) rfl)) (fun _ h9 => h9) rfl (by decide +kernel) rfl rfl (Nat.le_of_ble_eq_true rfl) dX1_answer_2 (fun H locs hP hD hS => ?_)
  have hP : va_P D kl [(h, .inr (1, [.ref nw, .ref bo, .int 0])), (bo, .inl (cI, 16, .inl bf)), (nw, .inr (3, [.int nvi, .int nro, .int nwa, .int nlz, .int nds, .int ndy, .int nga, .int npa, .ref nw0, .ref nw1, .ref nw2, .ref nw3, .ref nw4, .ref nw5, .ref nw6, .ref nw7])), (nw0, .inl (cI, 8, .inl nfw)), (nw1, .inl (cI, 8, .inl nfo)), (nw2, .inl (cI, 8, .inl nfr)), (nw3, .inl (cI, 8, .inl nfn)), (nw4, .inl (cI, 8, .inl nft)), (nw5, .inl (cI, 3, .inl nfk)), (nw6, .inl (cI, 3, .inl nfa)), (nw7, .inl (cI, 3, .inl nfb))] H := hP
  have hD : va_D A [(h, .inr (1, [.ref nw, .ref bo, .int 0])), (bo, .inl (cI, 16, .inl bf)), (nw, .inr (3, [.int nvi, .int nro, .int nwa, .int nlz, .int nds, .int ndy, .int nga, .int npa, .ref nw0, .ref nw1, .ref nw2, .ref nw3, .ref nw4, .ref nw5, .ref nw6, .ref nw7])), (nw0, .inl (cI, 8, .inl nfw)), (nw1, .inl (cI, 8, .inl nfo)), (nw2, .inl (cI, 8, .inl nfr)), (nw3, .inl (cI, 8, .inl nfn)), (nw4, .inl (cI, 8, .inl nft)), (nw5, .inl (cI, 3, .inl nfk)), (nw6, .inl (cI, 3, .inl nfa)), (nw7, .inl (cI, 3, .inl nfb))] := hD
  refine lv_aload_n hx hb dX1_answer_5 rfl (lv_at hl 0 rfl) ?_
  refine lv_iload_n hx hb dX1_answer_6 rfl (lv_at hl 1 rfl) ?_
  refine lv_iload_n hx hb dX1_answer_7 rfl (lv_at hl 2 rfl) ?_
  refine lv_iconst (v := 0) hx hb dX1_answer_8 (by decide) ?_
  have k_1 := (g_X1_asked_0 l D cI cB cQ z H.size h nw bo nw0 nw1 nw2 nw3 nw4 nw5 nw6 nw7 0 nvi nro nwa nlz nds ndy nga npa w k bf nfw nfo nfr nfn nft nfk nfa nfb nha ⟨by decide, by decide⟩ (by omega) (by omega) (by omega))
  refine wc_i (WC := [(h, .inr (1, [.ref nw, .ref bo, .int 0])), (bo, .inl (cI, 16, .inl bf)), (nw, .inr (3, [.int nvi, .int nro, .int nwa, .int nlz, .int nds, .int ndy, .int nga, .int npa, .ref nw0, .ref nw1, .ref nw2, .ref nw3, .ref nw4, .ref nw5, .ref nw6, .ref nw7])), (nw0, .inl (cI, 8, .inl nfw)), (nw1, .inl (cI, 8, .inl nfo)), (nw2, .inl (cI, 8, .inl nfr)), (nw3, .inl (cI, 8, .inl nfn)), (nw4, .inl (cI, 8, .inl nft)), (nw5, .inl (cI, 3, .inl nfk)), (nw6, .inl (cI, 3, .inl nfa)), (nw7, .inl (cI, 3, .inl nfb))]) (WR := []) (va_runV (As := [.int w, .int k, .int 0]) (rest := []) ⟨hx, hb, hml, hown, hts⟩ k_1 (cwV 3 hts gX1_answer_X1_asked rfl rfl rfl (by decide +kernel) ⟨Nat.le_of_ble_eq_true rfl, Nat.le_of_ble_eq_true rfl⟩) (wpz_V hZ hS hAb hP hK hD hN [0, 1, 2, 3, 4, 5, 6, 7, 8, 9, 10] (by decide) rfl (ci := 1) rfl rfl) rfl rfl hl.1 rfl (lv_room (Nat.le_of_ble_eq_true rfl)) dX1_answer_9 ⟨Nat.le_of_ble_eq_true rfl, Nat.le_of_ble_eq_true rfl⟩) hP hD hS hA [0, 1, 2, 3, 4, 5, 6, 7, 8, 9, 10] [] rfl rfl (by decide) (by decide) (fun r_1 u_1 H locs hw_1 hP hD hS => ?_)
  clear k_1
  obtain ⟨v1_0, v1_1⟩ := u_1
  have hP : va_P D kl [(h, .inr (1, [.ref nw, .ref bo, .int v1_0])), (bo, .inl (cI, 16, .inl v1_1)), (nw, .inr (3, [.int nvi, .int nro, .int nwa, .int nlz, .int nds, .int ndy, .int nga, .int npa, .ref nw0, .ref nw1, .ref nw2, .ref nw3, .ref nw4, .ref nw5, .ref nw6, .ref nw7])), (nw0, .inl (cI, 8, .inl nfw)), (nw1, .inl (cI, 8, .inl nfo)), (nw2, .inl (cI, 8, .inl nfr)), (nw3, .inl (cI, 8, .inl nfn)), (nw4, .inl (cI, 8, .inl nft)), (nw5, .inl (cI, 3, .inl nfk)), (nw6, .inl (cI, 3, .inl nfa)), (nw7, .inl (cI, 3, .inl nfb))] H := hP
  have hD : va_D A [(h, .inr (1, [.ref nw, .ref bo, .int v1_0])), (bo, .inl (cI, 16, .inl v1_1)), (nw, .inr (3, [.int nvi, .int nro, .int nwa, .int nlz, .int nds, .int ndy, .int nga, .int npa, .ref nw0, .ref nw1, .ref nw2, .ref nw3, .ref nw4, .ref nw5, .ref nw6, .ref nw7])), (nw0, .inl (cI, 8, .inl nfw)), (nw1, .inl (cI, 8, .inl nfo)), (nw2, .inl (cI, 8, .inl nfr)), (nw3, .inl (cI, 8, .inl nfn)), (nw4, .inl (cI, 8, .inl nft)), (nw5, .inl (cI, 3, .inl nfk)), (nw6, .inl (cI, 3, .inl nfa)), (nw7, .inl (cI, 3, .inl nfb))] := hD
  have c1_0 := hw_1
  have c1_0 : 0 ≤ v1_0.toInt ∧ v1_0.toInt ≤ 16 := c1_0
  exact wr_i (v := r_1) hx hb hr hlocks hS (v1_0, v1_1) (by exact show 0 ≤ (v1_0 : Int32).toInt ∧ (v1_0 : Int32).toInt ≤ 16 from by omega) (hP.sub [0, 1, 2, 3, 4, 5, 6, 7, 8, 9, 10] rfl) (hD.sub [0, 1, 2, 3, 4, 5, 6, 7, 8, 9, 10] (by decide) rfl) dX1_answer_12
set_option maxHeartbeats 4000000 in
set_option maxRecDepth 100000 in
theorem g_X7_as (l : Launch) (D : va_G) (cI cB cQ : ClassId) (z : ZT) (sz : Nat) (h : Nat) (rw : Nat) (tp : Nat) (nw : Nat) (ac : Nat) (im : Nat) (fo : Nat) (ak : Nat) (nw0 : Nat) (nw1 : Nat) (nw2 : Nat) (nw3 : Nat) (nw4 : Nat) (nw5 : Nat) (nw6 : Nat) (nw7 : Nat) (fg : Int32) (nvi : Int32) (nro : Int32) (nwa : Int32) (nlz : Int32) (nds : Int32) (ndy : Int32) (nga : Int32) (npa : Int32) (w : Int32) (b : Int32) (nfw : Nat → Int32) (nfo : Nat → Int32) (nfr : Nat → Int32) (nfn : Nat → Int32) (nft : Nat → Int32) (nfk : Nat → Int32) (nfa : Nat → Int32) (nfb : Nat → Int32) (nha : ∀ j, j < 3 → 0 ≤ (nfa j).toInt ∧ (nfa j).toInt ≤ 7) (h_nvi : 0 ≤ nvi.toInt ∧ nvi.toInt ≤ 8) (h_nwa : 0 ≤ nwa.toInt ∧ nwa.toInt ≤ 3) : miz l yX7_as wsX7_as ({ frames := 3, cells := 0, slots := 0, locals := 65 }) z D cI cB cQ [.ref h, .int w, .int b] sz [(h, .inr (6, [.ref rw, .ref tp, .ref nw, .ref ac, .ref im, .ref fo, .ref ak, .int fg])), (nw, .inr (3, [.int nvi, .int nro, .int nwa, .int nlz, .int nds, .int ndy, .int nga, .int npa, .ref nw0, .ref nw1, .ref nw2, .ref nw3, .ref nw4, .ref nw5, .ref nw6, .ref nw7])), (nw0, .inl (cI, 8, .inl nfw)), (nw1, .inl (cI, 8, .inl nfo)), (nw2, .inl (cI, 8, .inl nfr)), (nw3, .inl (cI, 8, .inl nfn)), (nw4, .inl (cI, 8, .inl nft)), (nw5, .inl (cI, 3, .inl nfk)), (nw6, .inl (cI, 3, .inl nfa)), (nw7, .inl (cI, 3, .inl nfb))] (fun (r : Int32) (u : Int32) => True) (fun u => [(h, .inr (6, [.ref rw, .ref tp, .ref nw, .ref ac, .ref im, .ref fo, .ref ak, .int u])), (nw, .inr (3, [.int nvi, .int nro, .int nwa, .int nlz, .int nds, .int ndy, .int nga, .int npa, .ref nw0, .ref nw1, .ref nw2, .ref nw3, .ref nw4, .ref nw5, .ref nw6, .ref nw7])), (nw0, .inl (cI, 8, .inl nfw)), (nw1, .inl (cI, 8, .inl nfo)), (nw2, .inl (cI, 8, .inl nfr)), (nw3, .inl (cI, 8, .inl nfn)), (nw4, .inl (cI, 8, .inl nft)), (nw5, .inl (cI, 3, .inl nfk)), (nw6, .inl (cI, 3, .inl nfa)), (nw7, .inl (cI, 3, .inl nfb))]) 0 0 := by
  refine wm_z (cc := cX7_as) (maxL := 3) (ret := (some .int)) (by decide) rfl (Nat.le_of_ble_eq_true rfl) ?_
  intro p e s m below meth c A ls hZ hAb hx hb hr hml hown hts hlocks hin hP hK hD hN hA hl hS
  have hown : s.vm.findClass RX7 = some m.cls := hown
  have hl : lv_has ls 3 [(0, .ref h), (1, .int w), (2, .int b)] := hl
  change W p l e ({ frames := 3, cells := 0, slots := 0, locals := 65 }) s m ([.ref h, .int w, .int b] : List Value).toArray below meth c s.heap [] 0 0 (MQ below (va_Qi (fun (r : Int32) (u : Int32) => True) (fun u t => wb D A ((fun u => [(h, .inr (6, [.ref rw, .ref tp, .ref nw, .ref ac, .ref im, .ref fo, .ref ak, .int u])), (nw, .inr (3, [.int nvi, .int nro, .int nwa, .int nlz, .int nds, .int ndy, .int nga, .int npa, .ref nw0, .ref nw1, .ref nw2, .ref nw3, .ref nw4, .ref nw5, .ref nw6, .ref nw7])), (nw0, .inl (cI, 8, .inl nfw)), (nw1, .inl (cI, 8, .inl nfo)), (nw2, .inl (cI, 8, .inl nfr)), (nw3, .inl (cI, 8, .inl nfn)), (nw4, .inl (cI, 8, .inl nft)), (nw5, .inl (cI, 3, .inl nfk)), (nw6, .inl (cI, 3, .inl nfa)), (nw7, .inl (cI, 3, .inl nfb))]) u) t) A) ([.ref h, .int w, .int b] : List Value).toArray s 0 0 A) (F0 m 0 ls [])
  refine lv_aload_n hx hb dX7_as_0 rfl (lv_at hl 0 rfl) ?_
  refine va_get (D := D) (ci := 6) (v := .ref nw) (C := RX7) (T := TX7) (N := 8) hx hb hts (fun _ h => List.mem_cons_of_mem _ (List.mem_append_left _ (List.mem_append_right _ h))) hown hK hP 0 rfl rfl 2 (by decide) (hts (.fieldLink RX7 26 "WinterWalk" "now" "LWinterWalk$Land;") (List.mem_of_getElem? (i := 1) rfl)) (fun _ h9 => h9) rfl dX7_as_1 ?_
  refine lv_iload_n hx hb dX7_as_4 rfl (lv_at hl 1 rfl) ?_
  have k_1 := (g_X4_hasWalker l D cI cB cQ s.heap.size nw nw0 nw1 nw2 nw3 nw4 nw5 nw6 nw7 nvi nro nwa nlz nds ndy nga npa w)
  refine wc_i (WC := [(nw, .inr (3, [.int nvi, .int nro, .int nwa, .int nlz, .int nds, .int ndy, .int nga, .int npa, .ref nw0, .ref nw1, .ref nw2, .ref nw3, .ref nw4, .ref nw5, .ref nw6, .ref nw7]))]) (WR := [(h, .inr (6, [.ref rw, .ref tp, .ref nw, .ref ac, .ref im, .ref fo, .ref ak, .int fg])), (nw0, .inl (cI, 8, .inl nfw)), (nw1, .inl (cI, 8, .inl nfo)), (nw2, .inl (cI, 8, .inl nfr)), (nw3, .inl (cI, 8, .inl nfn)), (nw4, .inl (cI, 8, .inl nft)), (nw5, .inl (cI, 3, .inl nfk)), (nw6, .inl (cI, 3, .inl nfa)), (nw7, .inl (cI, 3, .inl nfb))]) (va_runV (As := [.int w]) (rest := []) ⟨hx, hb, hml, hown, hts⟩ k_1 (cwV 1 hts gX7_as_X4_hasWalker rfl rfl rfl (by decide +kernel) ⟨Nat.le_of_ble_eq_true rfl, Nat.le_of_ble_eq_true rfl⟩) (wp_V hP hK hD hN [1] (by decide) rfl (ci := 3) rfl rfl) rfl rfl hl.1 rfl (lv_room (Nat.le_of_ble_eq_true rfl)) dX7_as_5 ⟨Nat.le_of_ble_eq_true rfl, Nat.le_of_ble_eq_true rfl⟩) hP hD hS hA [1] [0, 2, 3, 4, 5, 6, 7, 8, 9] rfl rfl (by decide) (by decide) (fun r_1 u_1 H locs hw_1 hP hD hS => ?_)
  clear k_1
  have hP : va_P D kl [(h, .inr (6, [.ref rw, .ref tp, .ref nw, .ref ac, .ref im, .ref fo, .ref ak, .int fg])), (nw0, .inl (cI, 8, .inl nfw)), (nw1, .inl (cI, 8, .inl nfo)), (nw2, .inl (cI, 8, .inl nfr)), (nw3, .inl (cI, 8, .inl nfn)), (nw4, .inl (cI, 8, .inl nft)), (nw5, .inl (cI, 3, .inl nfk)), (nw6, .inl (cI, 3, .inl nfa)), (nw7, .inl (cI, 3, .inl nfb)), (nw, .inr (3, [.int nvi, .int nro, .int nwa, .int nlz, .int nds, .int ndy, .int nga, .int npa, .ref nw0, .ref nw1, .ref nw2, .ref nw3, .ref nw4, .ref nw5, .ref nw6, .ref nw7]))] H := hP
  have hD : va_D A [(h, .inr (6, [.ref rw, .ref tp, .ref nw, .ref ac, .ref im, .ref fo, .ref ak, .int fg])), (nw0, .inl (cI, 8, .inl nfw)), (nw1, .inl (cI, 8, .inl nfo)), (nw2, .inl (cI, 8, .inl nfr)), (nw3, .inl (cI, 8, .inl nfn)), (nw4, .inl (cI, 8, .inl nft)), (nw5, .inl (cI, 3, .inl nfk)), (nw6, .inl (cI, 3, .inl nfa)), (nw7, .inl (cI, 3, .inl nfb)), (nw, .inr (3, [.int nvi, .int nro, .int nwa, .int nlz, .int nds, .int ndy, .int nga, .int npa, .ref nw0, .ref nw1, .ref nw2, .ref nw3, .ref nw4, .ref nw5, .ref nw6, .ref nw7]))] := hD
  have c1_0 := hw_1
  rcases c1_0 with ⟨e_1, f_1⟩ | ⟨e_1, f_1⟩
  · subst e_1
    have f_1 : 0 ≤ w.toInt ∧ w.toInt < nwa.toInt := f_1
    refine lv_if_eq (tgt := 20) hx hb dX7_as_8 (by decide) (fun c9 => absurd c9 (by decide)) (fun _ => ?_)
    refine lv_iconst (v := 0) hx hb dX7_as_11 (by decide) ?_
    refine lv_iload_n hx hb dX7_as_12 rfl (lv_at hl 2 rfl) ?_
    refine lv_iconst (v := 5) hx hb dX7_as_13 (by decide) ?_
    have k_2 := (g_X7_isFrom l D cI cB cQ H.size 0 b 5)
    refine wc_i (WC := []) (WR := [(h, .inr (6, [.ref rw, .ref tp, .ref nw, .ref ac, .ref im, .ref fo, .ref ak, .int fg])), (nw0, .inl (cI, 8, .inl nfw)), (nw1, .inl (cI, 8, .inl nfo)), (nw2, .inl (cI, 8, .inl nfr)), (nw3, .inl (cI, 8, .inl nfn)), (nw4, .inl (cI, 8, .inl nft)), (nw5, .inl (cI, 3, .inl nfk)), (nw6, .inl (cI, 3, .inl nfa)), (nw7, .inl (cI, 3, .inl nfb)), (nw, .inr (3, [.int nvi, .int nro, .int nwa, .int nlz, .int nds, .int ndy, .int nga, .int npa, .ref nw0, .ref nw1, .ref nw2, .ref nw3, .ref nw4, .ref nw5, .ref nw6, .ref nw7]))]) (va_runS (As := [.int 0, .int b, .int 5]) (rest := []) ⟨hx, hb, hml, hown, hts⟩ k_2 (va_cwS 3 hts gX7_as_X7_isFrom rfl rfl rfl (by decide +kernel) ⟨Nat.le_of_ble_eq_true rfl, Nat.le_of_ble_eq_true rfl⟩) (wp_S hP hK hD hN [] (by decide) rfl) rfl rfl hl.1 rfl (lv_room (Nat.le_of_ble_eq_true rfl)) dX7_as_14 ⟨Nat.le_of_ble_eq_true rfl, Nat.le_of_ble_eq_true rfl⟩) hP hD hS hA [] [0, 1, 2, 3, 4, 5, 6, 7, 8, 9] rfl rfl (by decide) (by decide) (fun r_2 u_2 H locs hw_2 hP hD hS => ?_)
    clear k_2
    have hP : va_P D kl [(h, .inr (6, [.ref rw, .ref tp, .ref nw, .ref ac, .ref im, .ref fo, .ref ak, .int fg])), (nw0, .inl (cI, 8, .inl nfw)), (nw1, .inl (cI, 8, .inl nfo)), (nw2, .inl (cI, 8, .inl nfr)), (nw3, .inl (cI, 8, .inl nfn)), (nw4, .inl (cI, 8, .inl nft)), (nw5, .inl (cI, 3, .inl nfk)), (nw6, .inl (cI, 3, .inl nfa)), (nw7, .inl (cI, 3, .inl nfb)), (nw, .inr (3, [.int nvi, .int nro, .int nwa, .int nlz, .int nds, .int ndy, .int nga, .int npa, .ref nw0, .ref nw1, .ref nw2, .ref nw3, .ref nw4, .ref nw5, .ref nw6, .ref nw7]))] H := hP
    have hD : va_D A [(h, .inr (6, [.ref rw, .ref tp, .ref nw, .ref ac, .ref im, .ref fo, .ref ak, .int fg])), (nw0, .inl (cI, 8, .inl nfw)), (nw1, .inl (cI, 8, .inl nfo)), (nw2, .inl (cI, 8, .inl nfr)), (nw3, .inl (cI, 8, .inl nfn)), (nw4, .inl (cI, 8, .inl nft)), (nw5, .inl (cI, 3, .inl nfk)), (nw6, .inl (cI, 3, .inl nfa)), (nw7, .inl (cI, 3, .inl nfb)), (nw, .inr (3, [.int nvi, .int nro, .int nwa, .int nlz, .int nds, .int ndy, .int nga, .int npa, .ref nw0, .ref nw1, .ref nw2, .ref nw3, .ref nw4, .ref nw5, .ref nw6, .ref nw7]))] := hD
    have c2_0 := hw_2
    rcases c2_0 with ⟨e_2, f_2⟩ | ⟨e_2, f_2⟩
    · subst e_2
      have f_2 : (0 : Int) ≤ b.toInt ∧ b.toInt ≤ (5 : Int) := f_2
      refine lv_if_ne (tgt := 23) hx hb dX7_as_17 (by decide) (fun _ => ?_) (fun c9 => absurd c9 (by decide))
      refine lv_aload_n hx hb dX7_as_23 rfl (lv_at hl 0 rfl) ?_
      refine va_get (D := D) (ci := 6) (v := .ref nw) (C := RX7) (T := TX7) (N := 8) hx hb hts (fun _ h => List.mem_cons_of_mem _ (List.mem_append_left _ (List.mem_append_right _ h))) hown hK hP 0 rfl rfl 2 (by decide) (hts (.fieldLink RX7 26 "WinterWalk" "now" "LWinterWalk$Land;") (List.mem_of_getElem? (i := 1) rfl)) (fun _ h9 => h9) rfl dX7_as_24 ?_
      refine va_get (D := D) (ci := 3) (v := .ref nw5) (C := RX4) (T := TX4) (N := 16) hx hb hts (fun _ h => List.mem_cons_of_mem _ (List.mem_append_right _ h)) hown hK hP 9 rfl rfl 13 (by decide) (hts (.fieldLink RX7 275 "WinterWalk$Land" "kinds" "[I") (List.mem_of_getElem? (i := 3) rfl)) (fun _ h9 => h9) rfl dX7_as_27 ?_
      refine lv_iload_n hx hb dX7_as_30 rfl (lv_at hl 1 rfl) ?_
      refine va_iald hx hb hK hP 6 0 rfl rfl (zi_in (by omega) (by omega)) dX7_as_31 ?_
      refine lv_topi (fun x_3 ex_3 => ?_)
      clear ex_3
      refine lv_iload_n hx hb dX7_as_32 rfl (lv_at hl 2 rfl) ?_
      have k_4 := (g_X3_isOf l D cI cB cQ z H.size x_3 b)
      refine wc_i (WC := []) (WR := [(h, .inr (6, [.ref rw, .ref tp, .ref nw, .ref ac, .ref im, .ref fo, .ref ak, .int fg])), (nw0, .inl (cI, 8, .inl nfw)), (nw1, .inl (cI, 8, .inl nfo)), (nw2, .inl (cI, 8, .inl nfr)), (nw3, .inl (cI, 8, .inl nfn)), (nw4, .inl (cI, 8, .inl nft)), (nw5, .inl (cI, 3, .inl nfk)), (nw6, .inl (cI, 3, .inl nfa)), (nw7, .inl (cI, 3, .inl nfb)), (nw, .inr (3, [.int nvi, .int nro, .int nwa, .int nlz, .int nds, .int ndy, .int nga, .int npa, .ref nw0, .ref nw1, .ref nw2, .ref nw3, .ref nw4, .ref nw5, .ref nw6, .ref nw7]))]) (va_runS (As := [.int x_3, .int b]) (rest := []) ⟨hx, hb, hml, hown, hts⟩ k_4 (va_cwS 2 hts gX7_as_X3_isOf rfl rfl rfl (by decide +kernel) ⟨Nat.le_of_ble_eq_true rfl, Nat.le_of_ble_eq_true rfl⟩) (wpz_S hZ hS hAb hP hK hD hN [] (by decide) rfl) rfl rfl hl.1 rfl (lv_room (Nat.le_of_ble_eq_true rfl)) dX7_as_33 ⟨Nat.le_of_ble_eq_true rfl, Nat.le_of_ble_eq_true rfl⟩) hP hD hS hA [] [0, 1, 2, 3, 4, 5, 6, 7, 8, 9] rfl rfl (by decide) (by decide) (fun r_4 u_4 H locs hw_4 hP hD hS => ?_)
      clear k_4
      have hP : va_P D kl [(h, .inr (6, [.ref rw, .ref tp, .ref nw, .ref ac, .ref im, .ref fo, .ref ak, .int fg])), (nw0, .inl (cI, 8, .inl nfw)), (nw1, .inl (cI, 8, .inl nfo)), (nw2, .inl (cI, 8, .inl nfr)), (nw3, .inl (cI, 8, .inl nfn)), (nw4, .inl (cI, 8, .inl nft)), (nw5, .inl (cI, 3, .inl nfk)), (nw6, .inl (cI, 3, .inl nfa)), (nw7, .inl (cI, 3, .inl nfb)), (nw, .inr (3, [.int nvi, .int nro, .int nwa, .int nlz, .int nds, .int ndy, .int nga, .int npa, .ref nw0, .ref nw1, .ref nw2, .ref nw3, .ref nw4, .ref nw5, .ref nw6, .ref nw7]))] H := hP
      have hD : va_D A [(h, .inr (6, [.ref rw, .ref tp, .ref nw, .ref ac, .ref im, .ref fo, .ref ak, .int fg])), (nw0, .inl (cI, 8, .inl nfw)), (nw1, .inl (cI, 8, .inl nfo)), (nw2, .inl (cI, 8, .inl nfr)), (nw3, .inl (cI, 8, .inl nfn)), (nw4, .inl (cI, 8, .inl nft)), (nw5, .inl (cI, 3, .inl nfk)), (nw6, .inl (cI, 3, .inl nfa)), (nw7, .inl (cI, 3, .inl nfb)), (nw, .inr (3, [.int nvi, .int nro, .int nwa, .int nlz, .int nds, .int ndy, .int nga, .int npa, .ref nw0, .ref nw1, .ref nw2, .ref nw3, .ref nw4, .ref nw5, .ref nw6, .ref nw7]))] := hD
      have c4_0 := hw_4
      rcases c4_0 with e_4 | e_4
      · subst e_4
        refine lv_if_ne (tgt := 45) hx hb dX7_as_36 (by decide) (fun _ => ?_) (fun c9 => absurd c9 (by decide))
        refine lv_aload_n hx hb dX7_as_45 rfl (lv_at hl 0 rfl) ?_
        refine lv_iload_n hx hb dX7_as_46 rfl (lv_at hl 1 rfl) ?_
        have k_5 := (g_X7_foundNothing l D cI cB cQ H.size h rw tp nw ac im fo ak fg w)
        refine wc_i (WC := [(h, .inr (6, [.ref rw, .ref tp, .ref nw, .ref ac, .ref im, .ref fo, .ref ak, .int fg]))]) (WR := [(nw0, .inl (cI, 8, .inl nfw)), (nw1, .inl (cI, 8, .inl nfo)), (nw2, .inl (cI, 8, .inl nfr)), (nw3, .inl (cI, 8, .inl nfn)), (nw4, .inl (cI, 8, .inl nft)), (nw5, .inl (cI, 3, .inl nfk)), (nw6, .inl (cI, 3, .inl nfa)), (nw7, .inl (cI, 3, .inl nfb)), (nw, .inr (3, [.int nvi, .int nro, .int nwa, .int nlz, .int nds, .int ndy, .int nga, .int npa, .ref nw0, .ref nw1, .ref nw2, .ref nw3, .ref nw4, .ref nw5, .ref nw6, .ref nw7]))]) (va_runV (As := [.int w]) (rest := []) ⟨hx, hb, hml, hown, hts⟩ k_5 (cwV 1 hts gX7_as_X7_foundNothing rfl rfl rfl (by decide +kernel) ⟨Nat.le_of_ble_eq_true rfl, Nat.le_of_ble_eq_true rfl⟩) (wp_V hP hK hD hN [0] (by decide) rfl (ci := 6) rfl rfl) rfl rfl hl.1 rfl (lv_room (Nat.le_of_ble_eq_true rfl)) dX7_as_47 ⟨Nat.le_of_ble_eq_true rfl, Nat.le_of_ble_eq_true rfl⟩) hP hD hS hA [0] [1, 2, 3, 4, 5, 6, 7, 8, 9] rfl rfl (by decide) (by decide) (fun r_5 u_5 H locs hw_5 hP hD hS => ?_)
        clear k_5
        have hP : va_P D kl [(nw0, .inl (cI, 8, .inl nfw)), (nw1, .inl (cI, 8, .inl nfo)), (nw2, .inl (cI, 8, .inl nfr)), (nw3, .inl (cI, 8, .inl nfn)), (nw4, .inl (cI, 8, .inl nft)), (nw5, .inl (cI, 3, .inl nfk)), (nw6, .inl (cI, 3, .inl nfa)), (nw7, .inl (cI, 3, .inl nfb)), (nw, .inr (3, [.int nvi, .int nro, .int nwa, .int nlz, .int nds, .int ndy, .int nga, .int npa, .ref nw0, .ref nw1, .ref nw2, .ref nw3, .ref nw4, .ref nw5, .ref nw6, .ref nw7])), (h, .inr (6, [.ref rw, .ref tp, .ref nw, .ref ac, .ref im, .ref fo, .ref ak, .int u_5]))] H := hP
        have hD : va_D A [(nw0, .inl (cI, 8, .inl nfw)), (nw1, .inl (cI, 8, .inl nfo)), (nw2, .inl (cI, 8, .inl nfr)), (nw3, .inl (cI, 8, .inl nfn)), (nw4, .inl (cI, 8, .inl nft)), (nw5, .inl (cI, 3, .inl nfk)), (nw6, .inl (cI, 3, .inl nfa)), (nw7, .inl (cI, 3, .inl nfb)), (nw, .inr (3, [.int nvi, .int nro, .int nwa, .int nlz, .int nds, .int ndy, .int nga, .int npa, .ref nw0, .ref nw1, .ref nw2, .ref nw3, .ref nw4, .ref nw5, .ref nw6, .ref nw7])), (h, .inr (6, [.ref rw, .ref tp, .ref nw, .ref ac, .ref im, .ref fo, .ref ak, .int u_5]))] := hD
        clear hw_5
        exact wr_i (v := r_5) hx hb hr hlocks hS u_5 (by trivial) (hP.sub [9, 8, 0, 1, 2, 3, 4, 5, 6, 7] rfl) (hD.sub [9, 8, 0, 1, 2, 3, 4, 5, 6, 7] (by decide) rfl) dX7_as_50
      · subst e_4
        refine lv_if_ne (tgt := 45) hx hb dX7_as_36 (by decide) (fun c9 => absurd (by decide) c9) (fun _ => ?_)
        refine lv_aload_n hx hb dX7_as_39 rfl (lv_at hl 0 rfl) ?_
        refine lv_iconst (v := 3) hx hb dX7_as_40 (by decide) ?_
        have k_6 := (g_X7_found l D cI cB cQ H.size h rw tp nw ac im fo ak fg 3)
        refine wc_i (WC := [(h, .inr (6, [.ref rw, .ref tp, .ref nw, .ref ac, .ref im, .ref fo, .ref ak, .int fg]))]) (WR := [(nw0, .inl (cI, 8, .inl nfw)), (nw1, .inl (cI, 8, .inl nfo)), (nw2, .inl (cI, 8, .inl nfr)), (nw3, .inl (cI, 8, .inl nfn)), (nw4, .inl (cI, 8, .inl nft)), (nw5, .inl (cI, 3, .inl nfk)), (nw6, .inl (cI, 3, .inl nfa)), (nw7, .inl (cI, 3, .inl nfb)), (nw, .inr (3, [.int nvi, .int nro, .int nwa, .int nlz, .int nds, .int ndy, .int nga, .int npa, .ref nw0, .ref nw1, .ref nw2, .ref nw3, .ref nw4, .ref nw5, .ref nw6, .ref nw7]))]) (va_runV (As := [.int 3]) (rest := []) ⟨hx, hb, hml, hown, hts⟩ k_6 (cwV 1 hts gX7_as_X7_found rfl rfl rfl (by decide +kernel) ⟨Nat.le_of_ble_eq_true rfl, Nat.le_of_ble_eq_true rfl⟩) (wp_V hP hK hD hN [0] (by decide) rfl (ci := 6) rfl rfl) rfl rfl hl.1 rfl (lv_room (Nat.le_of_ble_eq_true rfl)) dX7_as_41 ⟨Nat.le_of_ble_eq_true rfl, Nat.le_of_ble_eq_true rfl⟩) hP hD hS hA [0] [1, 2, 3, 4, 5, 6, 7, 8, 9] rfl rfl (by decide) (by decide) (fun r_6 u_6 H locs hw_6 hP hD hS => ?_)
        clear k_6
        have hP : va_P D kl [(nw0, .inl (cI, 8, .inl nfw)), (nw1, .inl (cI, 8, .inl nfo)), (nw2, .inl (cI, 8, .inl nfr)), (nw3, .inl (cI, 8, .inl nfn)), (nw4, .inl (cI, 8, .inl nft)), (nw5, .inl (cI, 3, .inl nfk)), (nw6, .inl (cI, 3, .inl nfa)), (nw7, .inl (cI, 3, .inl nfb)), (nw, .inr (3, [.int nvi, .int nro, .int nwa, .int nlz, .int nds, .int ndy, .int nga, .int npa, .ref nw0, .ref nw1, .ref nw2, .ref nw3, .ref nw4, .ref nw5, .ref nw6, .ref nw7])), (h, .inr (6, [.ref rw, .ref tp, .ref nw, .ref ac, .ref im, .ref fo, .ref ak, .int u_6]))] H := hP
        have hD : va_D A [(nw0, .inl (cI, 8, .inl nfw)), (nw1, .inl (cI, 8, .inl nfo)), (nw2, .inl (cI, 8, .inl nfr)), (nw3, .inl (cI, 8, .inl nfn)), (nw4, .inl (cI, 8, .inl nft)), (nw5, .inl (cI, 3, .inl nfk)), (nw6, .inl (cI, 3, .inl nfa)), (nw7, .inl (cI, 3, .inl nfb)), (nw, .inr (3, [.int nvi, .int nro, .int nwa, .int nlz, .int nds, .int ndy, .int nga, .int npa, .ref nw0, .ref nw1, .ref nw2, .ref nw3, .ref nw4, .ref nw5, .ref nw6, .ref nw7])), (h, .inr (6, [.ref rw, .ref tp, .ref nw, .ref ac, .ref im, .ref fo, .ref ak, .int u_6]))] := hD
        clear hw_6
        exact wr_i (v := r_6) hx hb hr hlocks hS u_6 (by trivial) (hP.sub [9, 8, 0, 1, 2, 3, 4, 5, 6, 7] rfl) (hD.sub [9, 8, 0, 1, 2, 3, 4, 5, 6, 7] (by decide) rfl) dX7_as_44
    · subst e_2
      have f_2 : ¬ ((0 : Int) ≤ b.toInt ∧ b.toInt ≤ (5 : Int)) := f_2
      refine lv_if_ne (tgt := 23) hx hb dX7_as_17 (by decide) (fun c9 => absurd (by decide) c9) (fun _ => ?_)
      refine lv_ldc (v := (-1000001)) hx hb hown (hts (.constant RX7 68 (-1000001)) (List.mem_of_getElem? (i := 2) rfl)) dX7_as_20 ?_
      exact wr_i (v := (-1000001)) hx hb hr hlocks hS fg (by trivial) (hP.sub [0, 9, 1, 2, 3, 4, 5, 6, 7, 8] rfl) (hD.sub [0, 9, 1, 2, 3, 4, 5, 6, 7, 8] (by decide) rfl) dX7_as_22
  · subst e_1
    have f_1 : ¬ (0 ≤ w.toInt ∧ w.toInt < nwa.toInt) := f_1
    refine lv_if_eq (tgt := 20) hx hb dX7_as_8 (by decide) (fun _ => ?_) (fun c9 => absurd (by decide) c9)
    refine lv_ldc (v := (-1000001)) hx hb hown (hts (.constant RX7 68 (-1000001)) (List.mem_of_getElem? (i := 2) rfl)) dX7_as_20 ?_
    exact wr_i (v := (-1000001)) hx hb hr hlocks hS fg (by trivial) (hP.sub [0, 9, 1, 2, 3, 4, 5, 6, 7, 8] rfl) (hD.sub [0, 9, 1, 2, 3, 4, 5, 6, 7, 8] (by decide) rfl) dX7_as_22
set_option maxHeartbeats 4000000 in
set_option maxRecDepth 100000 in
theorem g_X7_ask (l : Launch) (D : va_G) (cI cB cQ : ClassId) (z : ZT) (sz : Nat) (h : Nat) (rw : Nat) (tp : Nat) (nw : Nat) (ac : Nat) (im : Nat) (fo : Nat) (ak : Nat) (bo : Nat) (nw0 : Nat) (nw1 : Nat) (nw2 : Nat) (nw3 : Nat) (nw4 : Nat) (nw5 : Nat) (nw6 : Nat) (nw7 : Nat) (fg : Int32) (tc : Int32) (nvi : Int32) (nro : Int32) (nwa : Int32) (nlz : Int32) (nds : Int32) (ndy : Int32) (nga : Int32) (npa : Int32) (w : Int32) (k : Int32) (bf : Nat → Int32) (nfw : Nat → Int32) (nfo : Nat → Int32) (nfr : Nat → Int32) (nfn : Nat → Int32) (nft : Nat → Int32) (nfk : Nat → Int32) (nfa : Nat → Int32) (nfb : Nat → Int32) (nha : ∀ j, j < 3 → 0 ≤ (nfa j).toInt ∧ (nfa j).toInt ≤ 7) (h_tc : 0 ≤ tc.toInt ∧ tc.toInt ≤ 16) (h_nvi : 0 ≤ nvi.toInt ∧ nvi.toInt ≤ 8) (h_nwa : 0 ≤ nwa.toInt ∧ nwa.toInt ≤ 3) : miz l yX7_ask wsX7_ask ({ frames := 23, cells := 0, slots := 0, locals := 534 }) z D cI cB cQ [.ref h, .int w, .int k] sz [(h, .inr (6, [.ref rw, .ref tp, .ref nw, .ref ac, .ref im, .ref fo, .ref ak, .int fg])), (ak, .inr (1, [.ref nw, .ref bo, .int tc])), (bo, .inl (cI, 16, .inl bf)), (nw, .inr (3, [.int nvi, .int nro, .int nwa, .int nlz, .int nds, .int ndy, .int nga, .int npa, .ref nw0, .ref nw1, .ref nw2, .ref nw3, .ref nw4, .ref nw5, .ref nw6, .ref nw7])), (nw0, .inl (cI, 8, .inl nfw)), (nw1, .inl (cI, 8, .inl nfo)), (nw2, .inl (cI, 8, .inl nfr)), (nw3, .inl (cI, 8, .inl nfn)), (nw4, .inl (cI, 8, .inl nft)), (nw5, .inl (cI, 3, .inl nfk)), (nw6, .inl (cI, 3, .inl nfa)), (nw7, .inl (cI, 3, .inl nfb))] (fun (r : Int32) (u : Int32 × (Nat → Int32)) => (0 ≤ u.1.toInt ∧ u.1.toInt ≤ 16)) (fun u => [(h, .inr (6, [.ref rw, .ref tp, .ref nw, .ref ac, .ref im, .ref fo, .ref ak, .int fg])), (ak, .inr (1, [.ref nw, .ref bo, .int u.1])), (bo, .inl (cI, 16, .inl u.2)), (nw, .inr (3, [.int nvi, .int nro, .int nwa, .int nlz, .int nds, .int ndy, .int nga, .int npa, .ref nw0, .ref nw1, .ref nw2, .ref nw3, .ref nw4, .ref nw5, .ref nw6, .ref nw7])), (nw0, .inl (cI, 8, .inl nfw)), (nw1, .inl (cI, 8, .inl nfo)), (nw2, .inl (cI, 8, .inl nfr)), (nw3, .inl (cI, 8, .inl nfn)), (nw4, .inl (cI, 8, .inl nft)), (nw5, .inl (cI, 3, .inl nfk)), (nw6, .inl (cI, 3, .inl nfa)), (nw7, .inl (cI, 3, .inl nfb))]) 0 0 := by
  refine wm_z (cc := cX7_ask) (maxL := 3) (ret := (some .int)) (by decide) rfl (Nat.le_of_ble_eq_true rfl) ?_
  intro p e s m below meth c A ls hZ hAb hx hb hr hml hown hts hlocks hin hP hK hD hN hA hl hS
  have hown : s.vm.findClass RX7 = some m.cls := hown
  have hl : lv_has ls 3 [(0, .ref h), (1, .int w), (2, .int k)] := hl
  change W p l e ({ frames := 23, cells := 0, slots := 0, locals := 534 }) s m ([.ref h, .int w, .int k] : List Value).toArray below meth c s.heap [] 0 0 (MQ below (va_Qi (fun (r : Int32) (u : Int32 × (Nat → Int32)) => (0 ≤ u.1.toInt ∧ u.1.toInt ≤ 16)) (fun u t => wb D A ((fun u => [(h, .inr (6, [.ref rw, .ref tp, .ref nw, .ref ac, .ref im, .ref fo, .ref ak, .int fg])), (ak, .inr (1, [.ref nw, .ref bo, .int u.1])), (bo, .inl (cI, 16, .inl u.2)), (nw, .inr (3, [.int nvi, .int nro, .int nwa, .int nlz, .int nds, .int ndy, .int nga, .int npa, .ref nw0, .ref nw1, .ref nw2, .ref nw3, .ref nw4, .ref nw5, .ref nw6, .ref nw7])), (nw0, .inl (cI, 8, .inl nfw)), (nw1, .inl (cI, 8, .inl nfo)), (nw2, .inl (cI, 8, .inl nfr)), (nw3, .inl (cI, 8, .inl nfn)), (nw4, .inl (cI, 8, .inl nft)), (nw5, .inl (cI, 3, .inl nfk)), (nw6, .inl (cI, 3, .inl nfa)), (nw7, .inl (cI, 3, .inl nfb))]) u) t) A) ([.ref h, .int w, .int k] : List Value).toArray s 0 0 A) (F0 m 0 ls [])
  refine lv_aload_n hx hb dX7_ask_0 rfl (lv_at hl 0 rfl) ?_
  refine va_get (D := D) (ci := 6) (v := .ref nw) (C := RX7) (T := TX7) (N := 8) hx hb hts (fun _ h => List.mem_cons_of_mem _ (List.mem_append_left _ (List.mem_append_left _ (List.mem_append_right _ h)))) hown hK hP 0 rfl rfl 2 (by decide) (hts (.fieldLink RX7 26 "WinterWalk" "now" "LWinterWalk$Land;") (List.mem_of_getElem? (i := 1) rfl)) (fun _ h9 => h9) rfl dX7_ask_1 ?_
  refine lv_iload_n hx hb dX7_ask_4 rfl (lv_at hl 1 rfl) ?_
  have k_1 := (g_X4_hasWalker l D cI cB cQ s.heap.size nw nw0 nw1 nw2 nw3 nw4 nw5 nw6 nw7 nvi nro nwa nlz nds ndy nga npa w)
  refine wc_i (WC := [(nw, .inr (3, [.int nvi, .int nro, .int nwa, .int nlz, .int nds, .int ndy, .int nga, .int npa, .ref nw0, .ref nw1, .ref nw2, .ref nw3, .ref nw4, .ref nw5, .ref nw6, .ref nw7]))]) (WR := [(h, .inr (6, [.ref rw, .ref tp, .ref nw, .ref ac, .ref im, .ref fo, .ref ak, .int fg])), (ak, .inr (1, [.ref nw, .ref bo, .int tc])), (bo, .inl (cI, 16, .inl bf)), (nw0, .inl (cI, 8, .inl nfw)), (nw1, .inl (cI, 8, .inl nfo)), (nw2, .inl (cI, 8, .inl nfr)), (nw3, .inl (cI, 8, .inl nfn)), (nw4, .inl (cI, 8, .inl nft)), (nw5, .inl (cI, 3, .inl nfk)), (nw6, .inl (cI, 3, .inl nfa)), (nw7, .inl (cI, 3, .inl nfb))]) (va_runV (As := [.int w]) (rest := []) ⟨hx, hb, hml, hown, hts⟩ k_1 (cwV 1 hts gX7_ask_X4_hasWalker rfl rfl rfl (by decide +kernel) ⟨Nat.le_of_ble_eq_true rfl, Nat.le_of_ble_eq_true rfl⟩) (wp_V hP hK hD hN [3] (by decide) rfl (ci := 3) rfl rfl) rfl rfl hl.1 rfl (lv_room (Nat.le_of_ble_eq_true rfl)) dX7_ask_5 ⟨Nat.le_of_ble_eq_true rfl, Nat.le_of_ble_eq_true rfl⟩) hP hD hS hA [3] [0, 1, 2, 4, 5, 6, 7, 8, 9, 10, 11] rfl rfl (by decide) (by decide) (fun r_1 u_1 H locs hw_1 hP hD hS => ?_)
  clear k_1
  have hP : va_P D kl [(h, .inr (6, [.ref rw, .ref tp, .ref nw, .ref ac, .ref im, .ref fo, .ref ak, .int fg])), (ak, .inr (1, [.ref nw, .ref bo, .int tc])), (bo, .inl (cI, 16, .inl bf)), (nw0, .inl (cI, 8, .inl nfw)), (nw1, .inl (cI, 8, .inl nfo)), (nw2, .inl (cI, 8, .inl nfr)), (nw3, .inl (cI, 8, .inl nfn)), (nw4, .inl (cI, 8, .inl nft)), (nw5, .inl (cI, 3, .inl nfk)), (nw6, .inl (cI, 3, .inl nfa)), (nw7, .inl (cI, 3, .inl nfb)), (nw, .inr (3, [.int nvi, .int nro, .int nwa, .int nlz, .int nds, .int ndy, .int nga, .int npa, .ref nw0, .ref nw1, .ref nw2, .ref nw3, .ref nw4, .ref nw5, .ref nw6, .ref nw7]))] H := hP
  have hD : va_D A [(h, .inr (6, [.ref rw, .ref tp, .ref nw, .ref ac, .ref im, .ref fo, .ref ak, .int fg])), (ak, .inr (1, [.ref nw, .ref bo, .int tc])), (bo, .inl (cI, 16, .inl bf)), (nw0, .inl (cI, 8, .inl nfw)), (nw1, .inl (cI, 8, .inl nfo)), (nw2, .inl (cI, 8, .inl nfr)), (nw3, .inl (cI, 8, .inl nfn)), (nw4, .inl (cI, 8, .inl nft)), (nw5, .inl (cI, 3, .inl nfk)), (nw6, .inl (cI, 3, .inl nfa)), (nw7, .inl (cI, 3, .inl nfb)), (nw, .inr (3, [.int nvi, .int nro, .int nwa, .int nlz, .int nds, .int ndy, .int nga, .int npa, .ref nw0, .ref nw1, .ref nw2, .ref nw3, .ref nw4, .ref nw5, .ref nw6, .ref nw7]))] := hD
  have c1_0 := hw_1
  rcases c1_0 with ⟨e_1, f_1⟩ | ⟨e_1, f_1⟩
  · subst e_1
    have f_1 : 0 ≤ w.toInt ∧ w.toInt < nwa.toInt := f_1
    refine lv_if_eq (tgt := 20) hx hb dX7_ask_8 (by decide) (fun c9 => absurd c9 (by decide)) (fun _ => ?_)
    refine lv_iconst (v := 0) hx hb dX7_ask_11 (by decide) ?_
    refine lv_iload_n hx hb dX7_ask_12 rfl (lv_at hl 2 rfl) ?_
    refine lv_iconst (v := 1) hx hb dX7_ask_13 (by decide) ?_
    have k_2 := (g_X7_isFrom l D cI cB cQ H.size 0 k 1)
    refine wc_i (WC := []) (WR := [(h, .inr (6, [.ref rw, .ref tp, .ref nw, .ref ac, .ref im, .ref fo, .ref ak, .int fg])), (ak, .inr (1, [.ref nw, .ref bo, .int tc])), (bo, .inl (cI, 16, .inl bf)), (nw0, .inl (cI, 8, .inl nfw)), (nw1, .inl (cI, 8, .inl nfo)), (nw2, .inl (cI, 8, .inl nfr)), (nw3, .inl (cI, 8, .inl nfn)), (nw4, .inl (cI, 8, .inl nft)), (nw5, .inl (cI, 3, .inl nfk)), (nw6, .inl (cI, 3, .inl nfa)), (nw7, .inl (cI, 3, .inl nfb)), (nw, .inr (3, [.int nvi, .int nro, .int nwa, .int nlz, .int nds, .int ndy, .int nga, .int npa, .ref nw0, .ref nw1, .ref nw2, .ref nw3, .ref nw4, .ref nw5, .ref nw6, .ref nw7]))]) (va_runS (As := [.int 0, .int k, .int 1]) (rest := []) ⟨hx, hb, hml, hown, hts⟩ k_2 (va_cwS 3 hts gX7_ask_X7_isFrom rfl rfl rfl (by decide +kernel) ⟨Nat.le_of_ble_eq_true rfl, Nat.le_of_ble_eq_true rfl⟩) (wp_S hP hK hD hN [] (by decide) rfl) rfl rfl hl.1 rfl (lv_room (Nat.le_of_ble_eq_true rfl)) dX7_ask_14 ⟨Nat.le_of_ble_eq_true rfl, Nat.le_of_ble_eq_true rfl⟩) hP hD hS hA [] [0, 1, 2, 3, 4, 5, 6, 7, 8, 9, 10, 11] rfl rfl (by decide) (by decide) (fun r_2 u_2 H locs hw_2 hP hD hS => ?_)
    clear k_2
    have hP : va_P D kl [(h, .inr (6, [.ref rw, .ref tp, .ref nw, .ref ac, .ref im, .ref fo, .ref ak, .int fg])), (ak, .inr (1, [.ref nw, .ref bo, .int tc])), (bo, .inl (cI, 16, .inl bf)), (nw0, .inl (cI, 8, .inl nfw)), (nw1, .inl (cI, 8, .inl nfo)), (nw2, .inl (cI, 8, .inl nfr)), (nw3, .inl (cI, 8, .inl nfn)), (nw4, .inl (cI, 8, .inl nft)), (nw5, .inl (cI, 3, .inl nfk)), (nw6, .inl (cI, 3, .inl nfa)), (nw7, .inl (cI, 3, .inl nfb)), (nw, .inr (3, [.int nvi, .int nro, .int nwa, .int nlz, .int nds, .int ndy, .int nga, .int npa, .ref nw0, .ref nw1, .ref nw2, .ref nw3, .ref nw4, .ref nw5, .ref nw6, .ref nw7]))] H := hP
    have hD : va_D A [(h, .inr (6, [.ref rw, .ref tp, .ref nw, .ref ac, .ref im, .ref fo, .ref ak, .int fg])), (ak, .inr (1, [.ref nw, .ref bo, .int tc])), (bo, .inl (cI, 16, .inl bf)), (nw0, .inl (cI, 8, .inl nfw)), (nw1, .inl (cI, 8, .inl nfo)), (nw2, .inl (cI, 8, .inl nfr)), (nw3, .inl (cI, 8, .inl nfn)), (nw4, .inl (cI, 8, .inl nft)), (nw5, .inl (cI, 3, .inl nfk)), (nw6, .inl (cI, 3, .inl nfa)), (nw7, .inl (cI, 3, .inl nfb)), (nw, .inr (3, [.int nvi, .int nro, .int nwa, .int nlz, .int nds, .int ndy, .int nga, .int npa, .ref nw0, .ref nw1, .ref nw2, .ref nw3, .ref nw4, .ref nw5, .ref nw6, .ref nw7]))] := hD
    have c2_0 := hw_2
    rcases c2_0 with ⟨e_2, f_2⟩ | ⟨e_2, f_2⟩
    · subst e_2
      have f_2 : (0 : Int) ≤ k.toInt ∧ k.toInt ≤ (1 : Int) := f_2
      refine lv_if_ne (tgt := 23) hx hb dX7_ask_17 (by decide) (fun _ => ?_) (fun c9 => absurd c9 (by decide))
      refine lv_aload_n hx hb dX7_ask_23 rfl (lv_at hl 0 rfl) ?_
      refine va_get (D := D) (ci := 6) (v := .ref ak) (C := RX7) (T := TX7) (N := 8) hx hb hts (fun _ h => List.mem_cons_of_mem _ (List.mem_append_left _ (List.mem_append_left _ (List.mem_append_right _ h)))) hown hK hP 0 rfl rfl 6 (by decide) (hts (.fieldLink RX7 53 "WinterWalk" "asks" "LWinterWalk$Asks;") (List.mem_of_getElem? (i := 3) rfl)) (fun _ h9 => h9) rfl dX7_ask_24 ?_
      refine lv_iload_n hx hb dX7_ask_27 rfl (lv_at hl 1 rfl) ?_
      refine lv_iload_n hx hb dX7_ask_28 rfl (lv_at hl 2 rfl) ?_
      have k_3 := (g_X1_answer l D cI cB cQ z H.size ak nw bo nw0 nw1 nw2 nw3 nw4 nw5 nw6 nw7 tc nvi nro nwa nlz nds ndy nga npa w k bf nfw nfo nfr nfn nft nfk nfa nfb nha (by omega) (by omega) (by omega) (by omega))
      refine wc_i (WC := [(ak, .inr (1, [.ref nw, .ref bo, .int tc])), (bo, .inl (cI, 16, .inl bf)), (nw, .inr (3, [.int nvi, .int nro, .int nwa, .int nlz, .int nds, .int ndy, .int nga, .int npa, .ref nw0, .ref nw1, .ref nw2, .ref nw3, .ref nw4, .ref nw5, .ref nw6, .ref nw7])), (nw0, .inl (cI, 8, .inl nfw)), (nw1, .inl (cI, 8, .inl nfo)), (nw2, .inl (cI, 8, .inl nfr)), (nw3, .inl (cI, 8, .inl nfn)), (nw4, .inl (cI, 8, .inl nft)), (nw5, .inl (cI, 3, .inl nfk)), (nw6, .inl (cI, 3, .inl nfa)), (nw7, .inl (cI, 3, .inl nfb))]) (WR := [(h, .inr (6, [.ref rw, .ref tp, .ref nw, .ref ac, .ref im, .ref fo, .ref ak, .int fg]))]) (va_runV (As := [.int w, .int k]) (rest := []) ⟨hx, hb, hml, hown, hts⟩ k_3 (cwV 2 hts gX7_ask_X1_answer rfl rfl rfl (by decide +kernel) ⟨Nat.le_of_ble_eq_true rfl, Nat.le_of_ble_eq_true rfl⟩) (wpz_V hZ hS hAb hP hK hD hN [1, 2, 11, 3, 4, 5, 6, 7, 8, 9, 10] (by decide) rfl (ci := 1) rfl rfl) rfl rfl hl.1 rfl (lv_room (Nat.le_of_ble_eq_true rfl)) dX7_ask_29 ⟨Nat.le_of_ble_eq_true rfl, Nat.le_of_ble_eq_true rfl⟩) hP hD hS hA [1, 2, 11, 3, 4, 5, 6, 7, 8, 9, 10] [0] rfl rfl (by decide) (by decide) (fun r_3 u_3 H locs hw_3 hP hD hS => ?_)
      clear k_3
      obtain ⟨v3_0, v3_1⟩ := u_3
      have hP : va_P D kl [(h, .inr (6, [.ref rw, .ref tp, .ref nw, .ref ac, .ref im, .ref fo, .ref ak, .int fg])), (ak, .inr (1, [.ref nw, .ref bo, .int v3_0])), (bo, .inl (cI, 16, .inl v3_1)), (nw, .inr (3, [.int nvi, .int nro, .int nwa, .int nlz, .int nds, .int ndy, .int nga, .int npa, .ref nw0, .ref nw1, .ref nw2, .ref nw3, .ref nw4, .ref nw5, .ref nw6, .ref nw7])), (nw0, .inl (cI, 8, .inl nfw)), (nw1, .inl (cI, 8, .inl nfo)), (nw2, .inl (cI, 8, .inl nfr)), (nw3, .inl (cI, 8, .inl nfn)), (nw4, .inl (cI, 8, .inl nft)), (nw5, .inl (cI, 3, .inl nfk)), (nw6, .inl (cI, 3, .inl nfa)), (nw7, .inl (cI, 3, .inl nfb))] H := hP
      have hD : va_D A [(h, .inr (6, [.ref rw, .ref tp, .ref nw, .ref ac, .ref im, .ref fo, .ref ak, .int fg])), (ak, .inr (1, [.ref nw, .ref bo, .int v3_0])), (bo, .inl (cI, 16, .inl v3_1)), (nw, .inr (3, [.int nvi, .int nro, .int nwa, .int nlz, .int nds, .int ndy, .int nga, .int npa, .ref nw0, .ref nw1, .ref nw2, .ref nw3, .ref nw4, .ref nw5, .ref nw6, .ref nw7])), (nw0, .inl (cI, 8, .inl nfw)), (nw1, .inl (cI, 8, .inl nfo)), (nw2, .inl (cI, 8, .inl nfr)), (nw3, .inl (cI, 8, .inl nfn)), (nw4, .inl (cI, 8, .inl nft)), (nw5, .inl (cI, 3, .inl nfk)), (nw6, .inl (cI, 3, .inl nfa)), (nw7, .inl (cI, 3, .inl nfb))] := hD
      have c3_0 := hw_3
      have c3_0 : 0 ≤ v3_0.toInt ∧ v3_0.toInt ≤ 16 := c3_0
      exact wr_i (v := r_3) hx hb hr hlocks hS (v3_0, v3_1) (by exact show 0 ≤ (v3_0 : Int32).toInt ∧ (v3_0 : Int32).toInt ≤ 16 from by omega) (hP.sub [0, 1, 2, 3, 4, 5, 6, 7, 8, 9, 10, 11] rfl) (hD.sub [0, 1, 2, 3, 4, 5, 6, 7, 8, 9, 10, 11] (by decide) rfl) dX7_ask_32
    · subst e_2
      have f_2 : ¬ ((0 : Int) ≤ k.toInt ∧ k.toInt ≤ (1 : Int)) := f_2
      refine lv_if_ne (tgt := 23) hx hb dX7_ask_17 (by decide) (fun c9 => absurd (by decide) c9) (fun _ => ?_)
      refine lv_ldc (v := (-1000001)) hx hb hown (hts (.constant RX7 68 (-1000001)) (List.mem_of_getElem? (i := 2) rfl)) dX7_ask_20 ?_
      exact wr_i (v := (-1000001)) hx hb hr hlocks hS (tc, bf) (by exact show 0 ≤ (tc : Int32).toInt ∧ (tc : Int32).toInt ≤ 16 from by omega) (hP.sub [0, 1, 2, 11, 3, 4, 5, 6, 7, 8, 9, 10] rfl) (hD.sub [0, 1, 2, 11, 3, 4, 5, 6, 7, 8, 9, 10] (by decide) rfl) dX7_ask_22
  · subst e_1
    have f_1 : ¬ (0 ≤ w.toInt ∧ w.toInt < nwa.toInt) := f_1
    refine lv_if_eq (tgt := 20) hx hb dX7_ask_8 (by decide) (fun _ => ?_) (fun c9 => absurd (by decide) c9)
    refine lv_ldc (v := (-1000001)) hx hb hown (hts (.constant RX7 68 (-1000001)) (List.mem_of_getElem? (i := 2) rfl)) dX7_ask_20 ?_
    exact wr_i (v := (-1000001)) hx hb hr hlocks hS (tc, bf) (by exact show 0 ≤ (tc : Int32).toInt ∧ (tc : Int32).toInt ≤ 16 from by omega) (hP.sub [0, 1, 2, 11, 3, 4, 5, 6, 7, 8, 9, 10] rfl) (hD.sub [0, 1, 2, 11, 3, 4, 5, 6, 7, 8, 9, 10] (by decide) rfl) dX7_ask_22
