set_option maxHeartbeats 4000000 in
set_option maxRecDepth 100000 in
theorem g_X5_isRow (l : Launch) (D : va_G) (cI cB cQ : ClassId) (sz : Nat) (v : Int32) : mi l yX5_isRow wsX5_isRow ({ frames := 1, cells := 0, slots := 0, locals := 22 }) D cI cB cQ [.int v] sz [] (fun (r : Int32) (_u : Unit) => ((r = 1 ∧ 0 ≤ v.toInt ∧ v.toInt ≤ 7) ∨ (r = 0 ∧ ¬ (0 ≤ v.toInt ∧ v.toInt ≤ 7)))) (fun _ => []) 0 0 := by
  refine wm_i (cc := cX5_isRow) (maxL := 1) (ret := (some .boolean)) (by decide) rfl (Nat.le_of_ble_eq_true rfl) ?_
  intro p e s m below meth c A ls hx hb hr hml hown hts hlocks hin hP hK hD hN hA hl hS
  have hown : s.vm.findClass RX5 = some m.cls := hown
  have hl : lv_has ls 1 [(0, .int v)] := hl
  change W p l e ({ frames := 1, cells := 0, slots := 0, locals := 22 }) s m ([.int v] : List Value).toArray below meth c s.heap [] 0 0 (MQ below (va_Qi (fun (r : Int32) (_u : Unit) => ((r = 1 ∧ 0 ≤ v.toInt ∧ v.toInt ≤ 7) ∨ (r = 0 ∧ ¬ (0 ≤ v.toInt ∧ v.toInt ≤ 7)))) (fun u t => wb D A ((fun _ => []) u) t) A) ([.int v] : List Value).toArray s 0 0 A) (F0 m 0 ls [])
  refine lv_iconst (v := 0) hx hb dX5_isRow_0 (by decide) ?_
  refine lv_iload_n hx hb dX5_isRow_1 rfl (lv_at hl 0 rfl) ?_
  refine lv_bipush (v := 7) hx hb dX5_isRow_2 (by decide) ?_
  have k_1 := (g_X7_isFrom l D cI cB cQ s.heap.size 0 v 7)
  refine wc_i (WC := []) (WR := []) (va_runSN (As := [.int 0, .int v, .int 7]) (rest := []) ⟨hx, hb, hml, hown, hts⟩ k_1 (⟨va_cnB 3 hts gX5_isRow_X7_isFrom_n27 rfl rfl rfl hN.2.2.2.2.2.1 (hts (.initialized RX7) (List.mem_of_getElem? (i := 2) rfl)) (by decide +kernel) ⟨Nat.le_of_ble_eq_true rfl, Nat.le_of_ble_eq_true rfl⟩, (hts (.static yX7_isFrom) (List.mem_of_getElem? (i := 1) rfl)), trivial⟩) (wp_S hP hK hD hN [] (by decide) rfl) rfl rfl hl.1 rfl (lv_room (Nat.le_of_ble_eq_true rfl)) dX5_isRow_4 ⟨Nat.le_of_ble_eq_true rfl, Nat.le_of_ble_eq_true rfl⟩) hP hD hS hA [] [] rfl rfl (by decide) (by decide) (fun r_1 u_1 H locs hw_1 hP hD hS => ?_)
  clear k_1
  have hP : va_P D kl [] H := hP
  have hD : va_D A [] := hD
  have c1_0 := hw_1
  rcases c1_0 with ⟨e_1, f_1⟩ | ⟨e_1, f_1⟩
  · subst e_1
    have f_1 : (0 : Int) ≤ v.toInt ∧ v.toInt ≤ (7 : Int) := f_1
    exact wr_z (v := 1) hx hb hr hlocks hS () (by exact Or.inl ⟨rfl, show 0 ≤ v.toInt ∧ v.toInt ≤ 7 from by omega⟩) (hP.sub [] rfl) (hD.sub [] (by decide) rfl) dX5_isRow_7 rfl
  · subst e_1
    have f_1 : ¬ ((0 : Int) ≤ v.toInt ∧ v.toInt ≤ (7 : Int)) := f_1
    exact wr_z (v := 0) hx hb hr hlocks hS () (by exact Or.inr (⟨rfl, show ¬ (0 ≤ v.toInt ∧ v.toInt ≤ 7) from by omega⟩)) (hP.sub [] rfl) (hD.sub [] (by decide) rfl) dX5_isRow_7 rfl
set_option maxHeartbeats 4000000 in
set_option maxRecDepth 100000 in
theorem g_X5_isLane (l : Launch) (D : va_G) (cI cB cQ : ClassId) (sz : Nat) (v : Int32) : mi l yX5_isLane wsX5_isLane ({ frames := 1, cells := 0, slots := 0, locals := 22 }) D cI cB cQ [.int v] sz [] (fun (r : Int32) (_u : Unit) => ((r = 1 ∧ 0 ≤ v.toInt ∧ v.toInt ≤ 2) ∨ (r = 0 ∧ ¬ (0 ≤ v.toInt ∧ v.toInt ≤ 2)))) (fun _ => []) 0 0 := by
  refine wm_i (cc := cX5_isLane) (maxL := 1) (ret := (some .boolean)) (by decide) rfl (Nat.le_of_ble_eq_true rfl) ?_
  intro p e s m below meth c A ls hx hb hr hml hown hts hlocks hin hP hK hD hN hA hl hS
  have hown : s.vm.findClass RX5 = some m.cls := hown
  have hl : lv_has ls 1 [(0, .int v)] := hl
  change W p l e ({ frames := 1, cells := 0, slots := 0, locals := 22 }) s m ([.int v] : List Value).toArray below meth c s.heap [] 0 0 (MQ below (va_Qi (fun (r : Int32) (_u : Unit) => ((r = 1 ∧ 0 ≤ v.toInt ∧ v.toInt ≤ 2) ∨ (r = 0 ∧ ¬ (0 ≤ v.toInt ∧ v.toInt ≤ 2)))) (fun u t => wb D A ((fun _ => []) u) t) A) ([.int v] : List Value).toArray s 0 0 A) (F0 m 0 ls [])
  refine lv_iconst (v := 0) hx hb dX5_isLane_0 (by decide) ?_
  refine lv_iload_n hx hb dX5_isLane_1 rfl (lv_at hl 0 rfl) ?_
  refine lv_iconst (v := 2) hx hb dX5_isLane_2 (by decide) ?_
  have k_1 := (g_X7_isFrom l D cI cB cQ s.heap.size 0 v 2)
  refine wc_i (WC := []) (WR := []) (va_runSN (As := [.int 0, .int v, .int 2]) (rest := []) ⟨hx, hb, hml, hown, hts⟩ k_1 (⟨va_cnB 3 hts gX5_isLane_X7_isFrom_n27 rfl rfl rfl hN.2.2.2.2.2.1 (hts (.initialized RX7) (List.mem_of_getElem? (i := 2) rfl)) (by decide +kernel) ⟨Nat.le_of_ble_eq_true rfl, Nat.le_of_ble_eq_true rfl⟩, (hts (.static yX7_isFrom) (List.mem_of_getElem? (i := 1) rfl)), trivial⟩) (wp_S hP hK hD hN [] (by decide) rfl) rfl rfl hl.1 rfl (lv_room (Nat.le_of_ble_eq_true rfl)) dX5_isLane_3 ⟨Nat.le_of_ble_eq_true rfl, Nat.le_of_ble_eq_true rfl⟩) hP hD hS hA [] [] rfl rfl (by decide) (by decide) (fun r_1 u_1 H locs hw_1 hP hD hS => ?_)
  clear k_1
  have hP : va_P D kl [] H := hP
  have hD : va_D A [] := hD
  have c1_0 := hw_1
  rcases c1_0 with ⟨e_1, f_1⟩ | ⟨e_1, f_1⟩
  · subst e_1
    have f_1 : (0 : Int) ≤ v.toInt ∧ v.toInt ≤ (2 : Int) := f_1
    exact wr_z (v := 1) hx hb hr hlocks hS () (by exact Or.inl ⟨rfl, show 0 ≤ v.toInt ∧ v.toInt ≤ 2 from by omega⟩) (hP.sub [] rfl) (hD.sub [] (by decide) rfl) dX5_isLane_6 rfl
  · subst e_1
    have f_1 : ¬ ((0 : Int) ≤ v.toInt ∧ v.toInt ≤ (2 : Int)) := f_1
    exact wr_z (v := 0) hx hb hr hlocks hS () (by exact Or.inr (⟨rfl, show ¬ (0 ≤ v.toInt ∧ v.toInt ≤ 2) from by omega⟩)) (hP.sub [] rfl) (hD.sub [] (by decide) rfl) dX5_isLane_6 rfl
set_option maxHeartbeats 4000000 in
set_option maxRecDepth 100000 in
theorem g_J7_fill_53178 (l : Launch) (D : va_G) (cI cB cQ : ClassId) (sz : Nat) (a : Nat) (v : Int32) (f : Nat → Int32) : mv l yJ7_fill_53178 wsJ7_fill_53178 ({ frames := 0, cells := 0, slots := 0, locals := 0 }) D cI cB cQ [.ref a, .int v] sz [(a, .inl (cI, 8, .inl f))] (fun (u : (Nat → Int32)) => True) (fun u => [(a, .inl (cI, 8, .inl u))]) 0 0 := by
  refine wm_v (cc := cJ7_fill_53178) (maxL := 4) (ret := none) (by decide) rfl (Nat.le_of_ble_eq_true rfl) ?_
  intro p e s m below meth c A ls hx hb hr hml hown hts hlocks hin hP hK hD hN hA hl hS
  have hown : s.vm.findClass RJ7 = some m.cls := hown
  have hl : lv_has ls 4 [(0, .ref a), (1, .int v)] := hl
  change W p l e ({ frames := 0, cells := 0, slots := 0, locals := 0 }) s m ([.ref a, .int v] : List Value).toArray below meth c s.heap [] 0 0 (MQ below (va_Qv (fun (u : (Nat → Int32)) => True) (fun u t => wb D A ((fun u => [(a, .inl (cI, 8, .inl u))]) u) t) A) ([.ref a, .int v] : List Value).toArray s 0 0 A) (F0 m 0 ls [])
  refine lv_iconst (v := 0) hx hb dJ7_fill_53178_0 (by decide) ?_
  refine lv_istore_n (lv' := [(2, .int 0), (0, .ref a), (1, .int v)]) hx hb dJ7_fill_53178_1 rfl hl (by decide) rfl (fun ls hl => ?_)
  refine lv_aload_n hx hb dJ7_fill_53178_2 rfl (lv_at hl 1 rfl) ?_
  refine va_alen hx hb hK hP 0 0 rfl rfl (v := 8) rfl dJ7_fill_53178_3 ?_
  refine lv_istore_n (lv' := [(3, .int 8), (2, .int 0), (0, .ref a), (1, .int v)]) hx hb dJ7_fill_53178_4 rfl hl (by decide) rfl (fun ls hl => ?_)
  have hL5 : ∀ (nf : Nat) (t2_c5 : Int32) (g0_c5 : Nat → Int32) (H : Heap) (locs : List Loc) (ls : Array Slot), (0 ≤ t2_c5.toInt ∧ t2_c5.toInt ≤ 8) → (8 - t2_c5.toInt).toNat < nf → va_P D kl [(a, .inl (cI, 8, .inl g0_c5))] H → va_D A [(a, .inl (cI, 8, .inl g0_c5))] → va_S A s.heap H locs → lv_has ls 4 [(3, .int 8), (2, .int t2_c5), (0, .ref a), (1, .int v)] → W p l e ({ frames := 0, cells := 0, slots := 0, locals := 0 }) s m ([.ref a, .int v] : List Value).toArray below meth c H locs 0 0 (MQ below (va_Qv (fun (u : (Nat → Int32)) => True) (fun u t => wb D A ((fun u => [(a, .inl (cI, 8, .inl u))]) u) t) A) ([.ref a, .int v] : List Value).toArray s 0 0 A) (F0 m 5 ls []) := by
    intro nf
    induction nf with
    | zero =>
      intro t2_c5 g0_c5 H locs ls i_t2_c5 hm
      exact absurd hm (Nat.not_lt_zero _)
    | succ nf ih5 =>
      intro t2_c5 g0_c5 H locs ls i_t2_c5 hm5 hP hD hS hl
      refine lv_iload_n hx hb dJ7_fill_53178_5 rfl (lv_at hl 1 rfl) ?_
      refine lv_iload_n hx hb dJ7_fill_53178_6 rfl (lv_at hl 0 rfl) ?_
      refine lv_icmp_ge (tgt := 20) hx hb dJ7_fill_53178_7 (by decide) (fun c_1 => ?_) (fun c_1 => ?_)
      · have f_1 : 8 ≤ t2_c5.toInt := zi_le c_1
        exact wr_v hx hb hr hlocks hS g0_c5 (by trivial) (hP.sub [0] rfl) (hD.sub [0] (by decide) rfl) dJ7_fill_53178_20
      · have f_1 : ¬ 8 ≤ t2_c5.toInt := zi_nle c_1
        refine lv_aload_n hx hb dJ7_fill_53178_10 rfl (lv_at hl 2 rfl) ?_
        refine lv_iload_n hx hb dJ7_fill_53178_11 rfl (lv_at hl 1 rfl) ?_
        refine lv_iload_n hx hb dJ7_fill_53178_12 rfl (lv_at hl 3 rfl) ?_
        refine va_iast hx hb hK hP hD hS 0 0 rfl rfl (zi_in (by omega) (by omega)) dJ7_fill_53178_13 (fun H locs hP hD hS => ?_)
        have hP : va_P D kl [(a, .inl (cI, 8, .inl (upd g0_c5 (t2_c5 : Int32).toNatClampNeg v)))] H := hP
        have hD : va_D A [(a, .inl (cI, 8, .inl (upd g0_c5 (t2_c5 : Int32).toNatClampNeg v)))] := hD
        obtain ⟨x_2, ex_2⟩ : ∃ y : Int32, y = t2_c5 + Int32.ofInt 1 := ⟨_, rfl⟩
        refine lv_iinc (v := x_2) (lv' := [(2, .int x_2), (3, .int 8), (0, .ref a), (1, .int v)]) hx hb dJ7_fill_53178_14 hl (k := 1) rfl ex_2.symm (by decide) rfl (fun ls hl => ?_)
        have ex_2 : x_2 = t2_c5 + 1 := ex_2
        have e_2 : x_2.toInt = t2_c5.toInt + 1 := by rw [ex_2]; exact zi_add (rfl) (by decide) (by omega) (by omega)
        clear ex_2
        refine lv_goto (tgt := 5) hx hb dJ7_fill_53178_17 (by decide) ?_
        exact ih5 x_2 (upd g0_c5 (t2_c5 : Int32).toNatClampNeg v) _ _ _ (show 0 ≤ x_2.toInt ∧ x_2.toInt ≤ 8 from by omega) (by omega) (hP.sub [0] rfl) (hD.sub [0] (by decide) rfl) hS (lv_sub hl [1, 0, 2, 3] rfl)
  exact hL5 (((8 - (0 : Int32).toInt).toNat) + 1) 0 f _ _ _ (show 0 ≤ 0 ∧ 0 ≤ 8 from by omega) (Nat.lt_succ_self _) (hP.sub [0] rfl) (hD.sub [0] (by decide) rfl) hS (lv_sub hl [0, 1, 2, 3] rfl)
set_option maxHeartbeats 4000000 in
set_option maxRecDepth 100000 in
theorem g_X4_thawAll (l : Launch) (D : va_G) (cI cB cQ : ClassId) (sz : Nat) (h : Nat) (w0 : Nat) (w1 : Nat) (w2 : Nat) (w3 : Nat) (w4 : Nat) (w5 : Nat) (w6 : Nat) (w7 : Nat) (vi : Int32) (ro : Int32) (wa : Int32) (lz : Int32) (ds : Int32) (dy : Int32) (ga : Int32) (pa : Int32) (fw : Nat → Int32) (fo : Nat → Int32) (fr : Nat → Int32) (fn : Nat → Int32) (ft : Nat → Int32) (fk : Nat → Int32) (fa : Nat → Int32) (fb : Nat → Int32) (ha : ∀ j, j < 3 → 0 ≤ (fa j).toInt ∧ (fa j).toInt ≤ 7) (h_vi : 0 ≤ vi.toInt ∧ vi.toInt ≤ 8) (h_wa : 0 ≤ wa.toInt ∧ wa.toInt ≤ 3) : mv l yX4_thawAll wsX4_thawAll ({ frames := 1, cells := 0, slots := 0, locals := 23 }) D cI cB cQ [.ref h] sz [(h, .inr (3, [.int vi, .int ro, .int wa, .int lz, .int ds, .int dy, .int ga, .int pa, .ref w0, .ref w1, .ref w2, .ref w3, .ref w4, .ref w5, .ref w6, .ref w7])), (w0, .inl (cI, 8, .inl fw)), (w1, .inl (cI, 8, .inl fo)), (w2, .inl (cI, 8, .inl fr)), (w3, .inl (cI, 8, .inl fn)), (w4, .inl (cI, 8, .inl ft)), (w5, .inl (cI, 3, .inl fk)), (w6, .inl (cI, 3, .inl fa)), (w7, .inl (cI, 3, .inl fb))] (fun (u : (Nat → Int32)) => True) (fun u => [(h, .inr (3, [.int vi, .int ro, .int wa, .int lz, .int ds, .int dy, .int ga, .int pa, .ref w0, .ref w1, .ref w2, .ref w3, .ref w4, .ref w5, .ref w6, .ref w7])), (w0, .inl (cI, 8, .inl fw)), (w1, .inl (cI, 8, .inl fo)), (w2, .inl (cI, 8, .inl fr)), (w3, .inl (cI, 8, .inl fn)), (w4, .inl (cI, 8, .inl u)), (w5, .inl (cI, 3, .inl fk)), (w6, .inl (cI, 3, .inl fa)), (w7, .inl (cI, 3, .inl fb))]) 0 0 := by
  refine wm_v (cc := cX4_thawAll) (maxL := 1) (ret := none) (by decide) rfl (Nat.le_of_ble_eq_true rfl) ?_
  intro p e s m below meth c A ls hx hb hr hml hown hts hlocks hin hP hK hD hN hA hl hS
  have hown : s.vm.findClass RX4 = some m.cls := hown
  have hl : lv_has ls 1 [(0, .ref h)] := hl
  change W p l e ({ frames := 1, cells := 0, slots := 0, locals := 23 }) s m ([.ref h] : List Value).toArray below meth c s.heap [] 0 0 (MQ below (va_Qv (fun (u : (Nat → Int32)) => True) (fun u t => wb D A ((fun u => [(h, .inr (3, [.int vi, .int ro, .int wa, .int lz, .int ds, .int dy, .int ga, .int pa, .ref w0, .ref w1, .ref w2, .ref w3, .ref w4, .ref w5, .ref w6, .ref w7])), (w0, .inl (cI, 8, .inl fw)), (w1, .inl (cI, 8, .inl fo)), (w2, .inl (cI, 8, .inl fr)), (w3, .inl (cI, 8, .inl fn)), (w4, .inl (cI, 8, .inl u)), (w5, .inl (cI, 3, .inl fk)), (w6, .inl (cI, 3, .inl fa)), (w7, .inl (cI, 3, .inl fb))]) u) t) A) ([.ref h] : List Value).toArray s 0 0 A) (F0 m 0 ls [])
  refine lv_aload_n hx hb dX4_thawAll_0 rfl (lv_at hl 0 rfl) ?_
  refine va_get (D := D) (ci := 3) (v := .ref w4) (C := RX4) (T := TX4) (N := 16) hx hb hts (fun _ h => List.mem_cons_of_mem _ (List.mem_append_right _ h)) hown hK hP 0 rfl rfl 12 (by decide) (hts (.fieldLink RX4 49 "WinterWalk$Land" "thaws" "[I") (List.mem_of_getElem? (i := 1) rfl)) (fun _ h9 => h9) rfl dX4_thawAll_1 ?_
  refine lv_iconst (v := 0) hx hb dX4_thawAll_4 (by decide) ?_
  have k_1 := (g_J7_fill_53178 l D cI cB cQ s.heap.size w4 0 ft)
  refine wc_v (WC := [(w4, .inl (cI, 8, .inl ft))]) (WR := [(h, .inr (3, [.int vi, .int ro, .int wa, .int lz, .int ds, .int dy, .int ga, .int pa, .ref w0, .ref w1, .ref w2, .ref w3, .ref w4, .ref w5, .ref w6, .ref w7])), (w0, .inl (cI, 8, .inl fw)), (w1, .inl (cI, 8, .inl fo)), (w2, .inl (cI, 8, .inl fr)), (w3, .inl (cI, 8, .inl fn)), (w5, .inl (cI, 3, .inl fk)), (w6, .inl (cI, 3, .inl fa)), (w7, .inl (cI, 3, .inl fb))]) (va_runS (As := [.ref w4, .int 0]) (rest := []) ⟨hx, hb, hml, hown, hts⟩ k_1 (va_cwS 2 hts gX4_thawAll_J7_fill_53178 rfl rfl rfl (by decide +kernel) ⟨Nat.le_of_ble_eq_true rfl, Nat.le_of_ble_eq_true rfl⟩) (wp_S hP hK hD hN [5] (by decide) rfl) rfl rfl hl.1 rfl (lv_room (Nat.le_of_ble_eq_true rfl)) dX4_thawAll_5 ⟨Nat.le_of_ble_eq_true rfl, Nat.le_of_ble_eq_true rfl⟩) hP hD hS hA [5] [0, 1, 2, 3, 4, 6, 7, 8] rfl rfl (by decide) (by decide) (fun u_1 H locs hw_1 hP hD hS => ?_)
  clear k_1
  have hP : va_P D kl [(h, .inr (3, [.int vi, .int ro, .int wa, .int lz, .int ds, .int dy, .int ga, .int pa, .ref w0, .ref w1, .ref w2, .ref w3, .ref w4, .ref w5, .ref w6, .ref w7])), (w0, .inl (cI, 8, .inl fw)), (w1, .inl (cI, 8, .inl fo)), (w2, .inl (cI, 8, .inl fr)), (w3, .inl (cI, 8, .inl fn)), (w5, .inl (cI, 3, .inl fk)), (w6, .inl (cI, 3, .inl fa)), (w7, .inl (cI, 3, .inl fb)), (w4, .inl (cI, 8, .inl u_1))] H := hP
  have hD : va_D A [(h, .inr (3, [.int vi, .int ro, .int wa, .int lz, .int ds, .int dy, .int ga, .int pa, .ref w0, .ref w1, .ref w2, .ref w3, .ref w4, .ref w5, .ref w6, .ref w7])), (w0, .inl (cI, 8, .inl fw)), (w1, .inl (cI, 8, .inl fo)), (w2, .inl (cI, 8, .inl fr)), (w3, .inl (cI, 8, .inl fn)), (w5, .inl (cI, 3, .inl fk)), (w6, .inl (cI, 3, .inl fa)), (w7, .inl (cI, 3, .inl fb)), (w4, .inl (cI, 8, .inl u_1))] := hD
  clear hw_1
  exact wr_v hx hb hr hlocks hS u_1 (by trivial) (hP.sub [0, 1, 2, 3, 4, 8, 5, 6, 7] rfl) (hD.sub [0, 1, 2, 3, 4, 8, 5, 6, 7] (by decide) rfl) dX4_thawAll_8
set_option maxHeartbeats 4000000 in
set_option maxRecDepth 100000 in
theorem g_X5_isMissing (l : Launch) (D : va_G) (cI cB cQ : ClassId) (sz : Nat) (h : Nat) (la : Nat) (sq : Nat) (ir : Nat) (v : Int32) (fl : Nat → Int32) (h_v : 0 ≤ v.toInt ∧ v.toInt ≤ 7) : mi l yX5_isMissing wsX5_isMissing ({ frames := 0, cells := 0, slots := 0, locals := 0 }) D cI cB cQ [.ref h, .int v] sz [(h, .inr (4, [.ref la, .ref sq, .ref ir])), (la, .inl (cI, 8, .inl fl))] (fun (r : Int32) (_u : Unit) => ((r = 1) ∨ (r = 0))) (fun _ => [(h, .inr (4, [.ref la, .ref sq, .ref ir])), (la, .inl (cI, 8, .inl fl))]) 0 0 := by
  refine wm_i (cc := cX5_isMissing) (maxL := 2) (ret := (some .boolean)) (by decide) rfl (Nat.le_of_ble_eq_true rfl) ?_
  intro p e s m below meth c A ls hx hb hr hml hown hts hlocks hin hP hK hD hN hA hl hS
  have hown : s.vm.findClass RX5 = some m.cls := hown
  have hl : lv_has ls 2 [(0, .ref h), (1, .int v)] := hl
  change W p l e ({ frames := 0, cells := 0, slots := 0, locals := 0 }) s m ([.ref h, .int v] : List Value).toArray below meth c s.heap [] 0 0 (MQ below (va_Qi (fun (r : Int32) (_u : Unit) => ((r = 1) ∨ (r = 0))) (fun u t => wb D A ((fun _ => [(h, .inr (4, [.ref la, .ref sq, .ref ir])), (la, .inl (cI, 8, .inl fl))]) u) t) A) ([.ref h, .int v] : List Value).toArray s 0 0 A) (F0 m 0 ls [])
  refine lv_aload_n hx hb dX5_isMissing_0 rfl (lv_at hl 0 rfl) ?_
  refine va_get (D := D) (ci := 4) (v := .ref la) (C := RX5) (T := TX5) (N := 3) hx hb hts (fun _ h => List.mem_cons_of_mem _ (List.mem_append_right _ h)) hown hK hP 0 rfl rfl 0 (by decide) (hts (.fieldLink RX5 11 "WinterWalk$Rows" "lanes" "[I") (List.mem_of_getElem? (i := 1) rfl)) (fun _ h9 => h9) rfl dX5_isMissing_1 ?_
  refine lv_iload_n hx hb dX5_isMissing_4 rfl (lv_at hl 1 rfl) ?_
  refine va_iald hx hb hK hP 1 0 rfl rfl (zi_in (by omega) (by omega)) dX5_isMissing_5 ?_
  refine lv_topi (fun x_1 ex_1 => ?_)
  clear ex_1
  refine lv_iconst (v := (-1)) hx hb dX5_isMissing_6 (by decide) ?_
  refine lv_icmp_ne (tgt := 14) hx hb dX5_isMissing_7 (by decide) (fun c_2 => ?_) (fun c_2 => ?_)
  · have f_2 : ¬ x_1.toInt = (-1) := zi_ne c_2
    refine lv_iconst (v := 0) hx hb dX5_isMissing_14 (by decide) ?_
    exact wr_z (v := 0) hx hb hr hlocks hS () (by exact Or.inr (rfl)) (hP.sub [0, 1] rfl) (hD.sub [0, 1] (by decide) rfl) dX5_isMissing_15 rfl
  · have f_2 : x_1.toInt = (-1) := zi_eq c_2
    refine lv_iconst (v := 1) hx hb dX5_isMissing_10 (by decide) ?_
    refine lv_goto (tgt := 15) hx hb dX5_isMissing_11 (by decide) ?_
    exact wr_z (v := 1) hx hb hr hlocks hS () (by exact Or.inl rfl) (hP.sub [0, 1] rfl) (hD.sub [0, 1] (by decide) rfl) dX5_isMissing_15 rfl
set_option maxHeartbeats 4000000 in
set_option maxRecDepth 100000 in
theorem g_X5_howMany (l : Launch) (D : va_G) (cI cB cQ : ClassId) (sz : Nat) (h : Nat) (la : Nat) (sq : Nat) (ir : Nat) (fl : Nat → Int32) : mi l yX5_howMany wsX5_howMany ({ frames := 1, cells := 0, slots := 0, locals := 21 }) D cI cB cQ [.ref h] sz [(h, .inr (4, [.ref la, .ref sq, .ref ir])), (la, .inl (cI, 8, .inl fl))] (fun (r : Int32) (_u : Unit) => True) (fun _ => [(h, .inr (4, [.ref la, .ref sq, .ref ir])), (la, .inl (cI, 8, .inl fl))]) 0 0 := by
  refine wm_i (cc := cX5_howMany) (maxL := 3) (ret := (some .int)) (by decide) rfl (Nat.le_of_ble_eq_true rfl) ?_
  intro p e s m below meth c A ls hx hb hr hml hown hts hlocks hin hP hK hD hN hA hl hS
  have hown : s.vm.findClass RX5 = some m.cls := hown
  have hl : lv_has ls 3 [(0, .ref h)] := hl
  change W p l e ({ frames := 1, cells := 0, slots := 0, locals := 21 }) s m ([.ref h] : List Value).toArray below meth c s.heap [] 0 0 (MQ below (va_Qi (fun (r : Int32) (_u : Unit) => True) (fun u t => wb D A ((fun _ => [(h, .inr (4, [.ref la, .ref sq, .ref ir])), (la, .inl (cI, 8, .inl fl))]) u) t) A) ([.ref h] : List Value).toArray s 0 0 A) (F0 m 0 ls [])
  refine lv_iconst (v := 0) hx hb dX5_howMany_0 (by decide) ?_
  refine lv_istore_n (lv' := [(1, .int 0), (0, .ref h)]) hx hb dX5_howMany_1 rfl hl (by decide) rfl (fun ls hl => ?_)
  refine lv_iconst (v := 0) hx hb dX5_howMany_2 (by decide) ?_
  refine lv_istore_n (lv' := [(2, .int 0), (1, .int 0), (0, .ref h)]) hx hb dX5_howMany_3 rfl hl (by decide) rfl (fun ls hl => ?_)
  have hL4 : ∀ (nf : Nat) (t2_c4 : Int32) (t1_c4 : Int32) (H : Heap) (locs : List Loc) (ls : Array Slot), (0 ≤ t2_c4.toInt ∧ t2_c4.toInt ≤ 8) → (8 - t2_c4.toInt).toNat < nf → va_P D kl [(h, .inr (4, [.ref la, .ref sq, .ref ir])), (la, .inl (cI, 8, .inl fl))] H → va_D A [(h, .inr (4, [.ref la, .ref sq, .ref ir])), (la, .inl (cI, 8, .inl fl))] → va_S A s.heap H locs → lv_has ls 3 [(2, .int t2_c4), (1, .int t1_c4), (0, .ref h)] → W p l e ({ frames := 1, cells := 0, slots := 0, locals := 21 }) s m ([.ref h] : List Value).toArray below meth c H locs 0 0 (MQ below (va_Qi (fun (r : Int32) (_u : Unit) => True) (fun u t => wb D A ((fun _ => [(h, .inr (4, [.ref la, .ref sq, .ref ir])), (la, .inl (cI, 8, .inl fl))]) u) t) A) ([.ref h] : List Value).toArray s 0 0 A) (F0 m 4 ls []) := by
    intro nf
    induction nf with
    | zero =>
      intro t2_c4 t1_c4 H locs ls i_t2_c4 hm
      exact absurd hm (Nat.not_lt_zero _)
    | succ nf ih4 =>
      intro t2_c4 t1_c4 H locs ls i_t2_c4 hm4 hP hD hS hl
      refine lv_iload_n hx hb dX5_howMany_4 rfl (lv_at hl 0 rfl) ?_
      refine lv_bipush (v := 8) hx hb dX5_howMany_5 (by decide) ?_
      refine lv_icmp_ge (tgt := 27) hx hb dX5_howMany_7 (by decide) (fun c_1 => ?_) (fun c_1 => ?_)
      · have f_1 : 8 ≤ t2_c4.toInt := zi_le c_1
        refine lv_iload_n hx hb dX5_howMany_27 rfl (lv_at hl 1 rfl) ?_
        exact wr_i (v := t1_c4) hx hb hr hlocks hS () (by trivial) (hP.sub [0, 1] rfl) (hD.sub [0, 1] (by decide) rfl) dX5_howMany_28
      · have f_1 : ¬ 8 ≤ t2_c4.toInt := zi_nle c_1
        refine lv_aload_n hx hb dX5_howMany_10 rfl (lv_at hl 2 rfl) ?_
        refine lv_iload_n hx hb dX5_howMany_11 rfl (lv_at hl 0 rfl) ?_
        have k_2 := (g_X5_isMissing l D cI cB cQ H.size h la sq ir t2_c4 fl (by omega))
        refine wc_i (WC := [(h, .inr (4, [.ref la, .ref sq, .ref ir])), (la, .inl (cI, 8, .inl fl))]) (WR := []) (va_runV (As := [.int t2_c4]) (rest := []) ⟨hx, hb, hml, hown, hts⟩ k_2 (cwV 1 hts gX5_howMany_X5_isMissing rfl rfl rfl (by decide +kernel) ⟨Nat.le_of_ble_eq_true rfl, Nat.le_of_ble_eq_true rfl⟩) (wp_V hP hK hD hN [0, 1] (by decide) rfl (ci := 4) rfl rfl) rfl rfl hl.1 rfl (lv_room (Nat.le_of_ble_eq_true rfl)) dX5_howMany_12 ⟨Nat.le_of_ble_eq_true rfl, Nat.le_of_ble_eq_true rfl⟩) hP hD hS hA [0, 1] [] rfl rfl (by decide) (by decide) (fun r_2 u_2 H locs hw_2 hP hD hS => ?_)
        clear k_2
        have hP : va_P D kl [(h, .inr (4, [.ref la, .ref sq, .ref ir])), (la, .inl (cI, 8, .inl fl))] H := hP
        have hD : va_D A [(h, .inr (4, [.ref la, .ref sq, .ref ir])), (la, .inl (cI, 8, .inl fl))] := hD
        have c2_0 := hw_2
        rcases c2_0 with e_2 | e_2
        · subst e_2
          refine lv_if_ne (tgt := 21) hx hb dX5_howMany_15 (by decide) (fun _ => ?_) (fun c9 => absurd c9 (by decide))
          obtain ⟨x_3, ex_3⟩ : ∃ y : Int32, y = t2_c4 + Int32.ofInt 1 := ⟨_, rfl⟩
          refine lv_iinc (v := x_3) (lv' := [(2, .int x_3), (1, .int t1_c4), (0, .ref h)]) hx hb dX5_howMany_21 hl (k := 0) rfl ex_3.symm (by decide) rfl (fun ls hl => ?_)
          have ex_3 : x_3 = t2_c4 + 1 := ex_3
          have e_3 : x_3.toInt = t2_c4.toInt + 1 := by rw [ex_3]; exact zi_add (rfl) (by decide) (by omega) (by omega)
          clear ex_3
          refine lv_goto (tgt := 4) hx hb dX5_howMany_24 (by decide) ?_
          exact ih4 x_3 t1_c4 _ _ _ (show 0 ≤ x_3.toInt ∧ x_3.toInt ≤ 8 from by omega) (by omega) (hP.sub [0, 1] rfl) (hD.sub [0, 1] (by decide) rfl) hS (lv_sub hl [0, 1, 2] rfl)
        · subst e_2
          refine lv_if_ne (tgt := 21) hx hb dX5_howMany_15 (by decide) (fun c9 => absurd (by decide) c9) (fun _ => ?_)
          obtain ⟨x_4, ex_4⟩ : ∃ y : Int32, y = t1_c4 + Int32.ofInt 1 := ⟨_, rfl⟩
          refine lv_iinc (v := x_4) (lv' := [(1, .int x_4), (2, .int t2_c4), (0, .ref h)]) hx hb dX5_howMany_18 hl (k := 1) rfl ex_4.symm (by decide) rfl (fun ls hl => ?_)
          have ex_4 : x_4 = t1_c4 + 1 := ex_4
          clear ex_4
          obtain ⟨x_5, ex_5⟩ : ∃ y : Int32, y = t2_c4 + Int32.ofInt 1 := ⟨_, rfl⟩
          refine lv_iinc (v := x_5) (lv' := [(2, .int x_5), (1, .int x_4), (0, .ref h)]) hx hb dX5_howMany_21 hl (k := 1) rfl ex_5.symm (by decide) rfl (fun ls hl => ?_)
          have ex_5 : x_5 = t2_c4 + 1 := ex_5
          have e_5 : x_5.toInt = t2_c4.toInt + 1 := by rw [ex_5]; exact zi_add (rfl) (by decide) (by omega) (by omega)
          clear ex_5
          refine lv_goto (tgt := 4) hx hb dX5_howMany_24 (by decide) ?_
          exact ih4 x_5 x_4 _ _ _ (show 0 ≤ x_5.toInt ∧ x_5.toInt ≤ 8 from by omega) (by omega) (hP.sub [0, 1] rfl) (hD.sub [0, 1] (by decide) rfl) hS (lv_sub hl [0, 1, 2] rfl)
  exact hL4 (((8 - (0 : Int32).toInt).toNat) + 1) 0 0 _ _ _ (show 0 ≤ 0 ∧ 0 ≤ 8 from by omega) (Nat.lt_succ_self _) (hP.sub [0, 1] rfl) (hD.sub [0, 1] (by decide) rfl) hS (lv_sub hl [0, 1, 2] rfl)
set_option maxHeartbeats 4000000 in
set_option maxRecDepth 100000 in
theorem g_X5_indexOf (l : Launch) (D : va_G) (cI cB cQ : ClassId) (sz : Nat) (h : Nat) (la : Nat) (sq : Nat) (ir : Nat) (v : Int32) (i : Int32) (h_v : 0 ≤ v.toInt ∧ v.toInt ≤ 7) (h_i : 0 ≤ i.toInt ∧ i.toInt ≤ 40) : mi l yX5_indexOf wsX5_indexOf ({ frames := 0, cells := 0, slots := 0, locals := 0 }) D cI cB cQ [.ref h, .int v, .int i] sz [(h, .inr (4, [.ref la, .ref sq, .ref ir]))] (fun (r : Int32) (_u : Unit) => (r.toInt = v.toInt * 40 + i.toInt)) (fun _ => [(h, .inr (4, [.ref la, .ref sq, .ref ir]))]) 0 0 := by
  refine wm_i (cc := cX5_indexOf) (maxL := 3) (ret := (some .int)) (by decide) rfl (Nat.le_of_ble_eq_true rfl) ?_
  intro p e s m below meth c A ls hx hb hr hml hown hts hlocks hin hP hK hD hN hA hl hS
  have hown : s.vm.findClass RX5 = some m.cls := hown
  have hl : lv_has ls 3 [(0, .ref h), (1, .int v), (2, .int i)] := hl
  change W p l e ({ frames := 0, cells := 0, slots := 0, locals := 0 }) s m ([.ref h, .int v, .int i] : List Value).toArray below meth c s.heap [] 0 0 (MQ below (va_Qi (fun (r : Int32) (_u : Unit) => (r.toInt = v.toInt * 40 + i.toInt)) (fun u t => wb D A ((fun _ => [(h, .inr (4, [.ref la, .ref sq, .ref ir]))]) u) t) A) ([.ref h, .int v, .int i] : List Value).toArray s 0 0 A) (F0 m 0 ls [])
  refine lv_iload_n hx hb dX5_indexOf_0 rfl (lv_at hl 1 rfl) ?_
  refine lv_bipush (v := 40) hx hb dX5_indexOf_1 (by decide) ?_
  refine lv_imul hx hb dX5_indexOf_3 ?_
  refine lv_topi (fun x_1 ex_1 => ?_)
  have e_1 : x_1.toInt = v.toInt * 40 := by rw [ex_1]; exact zi_mul (rfl) (by decide) (by omega) (by omega)
  clear ex_1
  refine lv_iload_n hx hb dX5_indexOf_4 rfl (lv_at hl 2 rfl) ?_
  refine lv_iadd hx hb dX5_indexOf_5 ?_
  refine lv_topi (fun x_2 ex_2 => ?_)
  have e_2 : x_2.toInt = x_1.toInt + i.toInt := by rw [ex_2]; exact zi_add (rfl) (rfl) (by omega) (by omega)
  clear ex_2
  exact wr_i (v := x_2) hx hb hr hlocks hS () (by exact show x_2.toInt = v.toInt * 40 + i.toInt from by omega) (hP.sub [0] rfl) (hD.sub [0] (by decide) rfl) dX5_indexOf_6
set_option maxHeartbeats 4000000 in
set_option maxRecDepth 100000 in
theorem g_X5_itemAt (l : Launch) (D : va_G) (cI cB cQ : ClassId) (sz : Nat) (h : Nat) (la : Nat) (sq : Nat) (ir : Nat) (i : Int32) (fi : Nat → Int32) : mi l yX5_itemAt wsX5_itemAt ({ frames := 1, cells := 0, slots := 0, locals := 22 }) D cI cB cQ [.ref h, .int i] sz [(h, .inr (4, [.ref la, .ref sq, .ref ir])), (ir, .inl (cI, 320, .inl fi))] (fun (r : Int32) (_u : Unit) => True) (fun _ => [(h, .inr (4, [.ref la, .ref sq, .ref ir])), (ir, .inl (cI, 320, .inl fi))]) 0 0 := by
  refine wm_i (cc := cX5_itemAt) (maxL := 2) (ret := (some .int)) (by decide) rfl (Nat.le_of_ble_eq_true rfl) ?_
  intro p e s m below meth c A ls hx hb hr hml hown hts hlocks hin hP hK hD hN hA hl hS
  have hown : s.vm.findClass RX5 = some m.cls := hown
  have hl : lv_has ls 2 [(0, .ref h), (1, .int i)] := hl
  change W p l e ({ frames := 1, cells := 0, slots := 0, locals := 22 }) s m ([.ref h, .int i] : List Value).toArray below meth c s.heap [] 0 0 (MQ below (va_Qi (fun (r : Int32) (_u : Unit) => True) (fun u t => wb D A ((fun _ => [(h, .inr (4, [.ref la, .ref sq, .ref ir])), (ir, .inl (cI, 320, .inl fi))]) u) t) A) ([.ref h, .int i] : List Value).toArray s 0 0 A) (F0 m 0 ls [])
  refine lv_iconst (v := 0) hx hb dX5_itemAt_0 (by decide) ?_
  refine lv_iload_n hx hb dX5_itemAt_1 rfl (lv_at hl 1 rfl) ?_
  refine lv_sipush (v := 319) hx hb dX5_itemAt_2 (by decide) ?_
  have k_1 := (g_X7_isFrom l D cI cB cQ s.heap.size 0 i 319)
  refine wc_i (WC := []) (WR := [(h, .inr (4, [.ref la, .ref sq, .ref ir])), (ir, .inl (cI, 320, .inl fi))]) (va_runSN (As := [.int 0, .int i, .int 319]) (rest := []) ⟨hx, hb, hml, hown, hts⟩ k_1 (⟨va_cnB 3 hts gX5_itemAt_X7_isFrom_n27 rfl rfl rfl hN.2.2.2.2.2.1 (hts (.initialized RX7) (List.mem_of_getElem? (i := 3) rfl)) (by decide +kernel) ⟨Nat.le_of_ble_eq_true rfl, Nat.le_of_ble_eq_true rfl⟩, (hts (.static yX7_isFrom) (List.mem_of_getElem? (i := 2) rfl)), trivial⟩) (wp_S hP hK hD hN [] (by decide) rfl) rfl rfl hl.1 rfl (lv_room (Nat.le_of_ble_eq_true rfl)) dX5_itemAt_5 ⟨Nat.le_of_ble_eq_true rfl, Nat.le_of_ble_eq_true rfl⟩) hP hD hS hA [] [0, 1] rfl rfl (by decide) (by decide) (fun r_1 u_1 H locs hw_1 hP hD hS => ?_)
  clear k_1
  have hP : va_P D kl [(h, .inr (4, [.ref la, .ref sq, .ref ir])), (ir, .inl (cI, 320, .inl fi))] H := hP
  have hD : va_D A [(h, .inr (4, [.ref la, .ref sq, .ref ir])), (ir, .inl (cI, 320, .inl fi))] := hD
  have c1_0 := hw_1
  rcases c1_0 with ⟨e_1, f_1⟩ | ⟨e_1, f_1⟩
  · subst e_1
    have f_1 : (0 : Int) ≤ i.toInt ∧ i.toInt ≤ (319 : Int) := f_1
    refine lv_if_eq (tgt := 20) hx hb dX5_itemAt_8 (by decide) (fun c9 => absurd c9 (by decide)) (fun _ => ?_)
    refine lv_aload_n hx hb dX5_itemAt_11 rfl (lv_at hl 0 rfl) ?_
    refine va_get (D := D) (ci := 4) (v := .ref ir) (C := RX5) (T := TX5) (N := 3) hx hb hts (fun _ h => List.mem_cons_of_mem _ (List.mem_append_right _ h)) hown hK hP 0 rfl rfl 2 (by decide) (hts (.fieldLink RX5 18 "WinterWalk$Rows" "items" "[I") (List.mem_of_getElem? (i := 1) rfl)) (fun _ h9 => h9) rfl dX5_itemAt_12 ?_
    refine lv_iload_n hx hb dX5_itemAt_15 rfl (lv_at hl 1 rfl) ?_
    refine va_iald hx hb hK hP 1 0 rfl rfl (zi_in (by omega) (by omega)) dX5_itemAt_16 ?_
    refine lv_topi (fun x_2 ex_2 => ?_)
    clear ex_2
    refine lv_goto (tgt := 21) hx hb dX5_itemAt_17 (by decide) ?_
    exact wr_i (v := x_2) hx hb hr hlocks hS () (by trivial) (hP.sub [0, 1] rfl) (hD.sub [0, 1] (by decide) rfl) dX5_itemAt_21
  · subst e_1
    have f_1 : ¬ ((0 : Int) ≤ i.toInt ∧ i.toInt ≤ (319 : Int)) := f_1
    refine lv_if_eq (tgt := 20) hx hb dX5_itemAt_8 (by decide) (fun _ => ?_) (fun c9 => absurd (by decide) c9)
    refine lv_iconst (v := 0) hx hb dX5_itemAt_20 (by decide) ?_
    exact wr_i (v := 0) hx hb hr hlocks hS () (by trivial) (hP.sub [0, 1] rfl) (hD.sub [0, 1] (by decide) rfl) dX5_itemAt_21
set_option maxHeartbeats 4000000 in
set_option maxRecDepth 100000 in
theorem g_X5_carry (l : Launch) (D : va_G) (cI cB cQ : ClassId) (sz : Nat) (h : Nat) (la : Nat) (sq : Nat) (ir : Nat) (v : Int32) (i : Int32) (b : Int32) (j : Int32) (n : Int32) (fi : Nat → Int32) (h_v : 0 ≤ v.toInt ∧ v.toInt ≤ 7) (h_b : 0 ≤ b.toInt ∧ b.toInt ≤ 7) (h_i : 0 ≤ i.toInt ∧ i.toInt ≤ 40) (h_j : 0 ≤ j.toInt ∧ j.toInt ≤ 40) (h_n : 0 ≤ n.toInt ∧ n.toInt ≤ 40) (h_x : i.toInt + n.toInt ≤ 40 ∧ j.toInt + n.toInt ≤ 40) : mv l yX5_carry wsX5_carry ({ frames := 1, cells := 0, slots := 0, locals := 80 }) D cI cB cQ [.ref h, .int v, .int i, .int b, .int j, .int n] sz [(h, .inr (4, [.ref la, .ref sq, .ref ir])), (ir, .inl (cI, 320, .inl fi))] (fun (u : (Nat → Int32)) => True) (fun u => [(h, .inr (4, [.ref la, .ref sq, .ref ir])), (ir, .inl (cI, 320, .inl u))]) 0 0 := by
  refine wm_v (cc := cX5_carry) (maxL := 6) (ret := none) (by decide) rfl (Nat.le_of_ble_eq_true rfl) ?_
  intro p e s m below meth c A ls hx hb hr hml hown hts hlocks hin hP hK hD hN hA hl hS
  have hown : s.vm.findClass RX5 = some m.cls := hown
  have hl : lv_has ls 6 [(0, .ref h), (1, .int v), (2, .int i), (3, .int b), (4, .int j), (5, .int n)] := hl
  change W p l e ({ frames := 1, cells := 0, slots := 0, locals := 80 }) s m ([.ref h, .int v, .int i, .int b, .int j, .int n] : List Value).toArray below meth c s.heap [] 0 0 (MQ below (va_Qv (fun (u : (Nat → Int32)) => True) (fun u t => wb D A ((fun u => [(h, .inr (4, [.ref la, .ref sq, .ref ir])), (ir, .inl (cI, 320, .inl u))]) u) t) A) ([.ref h, .int v, .int i, .int b, .int j, .int n] : List Value).toArray s 0 0 A) (F0 m 0 ls [])
  refine lv_aload_n hx hb dX5_carry_0 rfl (lv_at hl 0 rfl) ?_
  refine va_get (D := D) (ci := 4) (v := .ref ir) (C := RX5) (T := TX5) (N := 3) hx hb hts (fun _ h => List.mem_cons_of_mem _ (List.mem_append_right _ h)) hown hK hP 0 rfl rfl 2 (by decide) (hts (.fieldLink RX5 18 "WinterWalk$Rows" "items" "[I") (List.mem_of_getElem? (i := 1) rfl)) (fun _ h9 => h9) rfl dX5_carry_1 ?_
  refine lv_aload_n hx hb dX5_carry_4 rfl (lv_at hl 0 rfl) ?_
  refine lv_iload_n hx hb dX5_carry_5 rfl (lv_at hl 1 rfl) ?_
  refine lv_iload_n hx hb dX5_carry_6 rfl (lv_at hl 2 rfl) ?_
  have k_1 := (g_X5_indexOf l D cI cB cQ s.heap.size h la sq ir v i (by omega) (by omega))
  refine wc_i (WC := [(h, .inr (4, [.ref la, .ref sq, .ref ir]))]) (WR := [(ir, .inl (cI, 320, .inl fi))]) (va_runV (As := [.int v, .int i]) (rest := [.ref ir]) ⟨hx, hb, hml, hown, hts⟩ k_1 (cwV 2 hts gX5_carry_X5_indexOf rfl rfl rfl (by decide +kernel) ⟨Nat.le_of_ble_eq_true rfl, Nat.le_of_ble_eq_true rfl⟩) (wp_V hP hK hD hN [0] (by decide) rfl (ci := 4) rfl rfl) rfl rfl hl.1 rfl (lv_room (Nat.le_of_ble_eq_true rfl)) dX5_carry_7 ⟨Nat.le_of_ble_eq_true rfl, Nat.le_of_ble_eq_true rfl⟩) hP hD hS hA [0] [1] rfl rfl (by decide) (by decide) (fun r_1 u_1 H locs hw_1 hP hD hS => ?_)
  clear k_1
  have hP : va_P D kl [(ir, .inl (cI, 320, .inl fi)), (h, .inr (4, [.ref la, .ref sq, .ref ir]))] H := hP
  have hD : va_D A [(ir, .inl (cI, 320, .inl fi)), (h, .inr (4, [.ref la, .ref sq, .ref ir]))] := hD
  have c1_0 := hw_1
  have c1_0 : r_1.toInt = v.toInt * 40 + i.toInt := c1_0
  refine lv_aload_n hx hb dX5_carry_10 rfl (lv_at hl 0 rfl) ?_
  refine va_get (D := D) (ci := 4) (v := .ref ir) (C := RX5) (T := TX5) (N := 3) hx hb hts (fun _ h => List.mem_cons_of_mem _ (List.mem_append_right _ h)) hown hK hP 1 rfl rfl 2 (by decide) (hts (.fieldLink RX5 18 "WinterWalk$Rows" "items" "[I") (List.mem_of_getElem? (i := 1) rfl)) (fun _ h9 => h9) rfl dX5_carry_11 ?_
  refine lv_aload_n hx hb dX5_carry_14 rfl (lv_at hl 0 rfl) ?_
  refine lv_iload_n hx hb dX5_carry_15 rfl (lv_at hl 3 rfl) ?_
  refine lv_iload hx hb dX5_carry_16 (lv_at hl 4 rfl) ?_
  have k_2 := (g_X5_indexOf l D cI cB cQ H.size h la sq ir b j (by omega) (by omega))
  refine wc_i (WC := [(h, .inr (4, [.ref la, .ref sq, .ref ir]))]) (WR := [(ir, .inl (cI, 320, .inl fi))]) (va_runV (As := [.int b, .int j]) (rest := [.ref ir, .int r_1, .ref ir]) ⟨hx, hb, hml, hown, hts⟩ k_2 (cwV 2 hts gX5_carry_X5_indexOf rfl rfl rfl (by decide +kernel) ⟨Nat.le_of_ble_eq_true rfl, Nat.le_of_ble_eq_true rfl⟩) (wp_V hP hK hD hN [1] (by decide) rfl (ci := 4) rfl rfl) rfl rfl hl.1 rfl (lv_room (Nat.le_of_ble_eq_true rfl)) dX5_carry_18 ⟨Nat.le_of_ble_eq_true rfl, Nat.le_of_ble_eq_true rfl⟩) hP hD hS hA [1] [0] rfl rfl (by decide) (by decide) (fun r_2 u_2 H locs hw_2 hP hD hS => ?_)
  clear k_2
  have hP : va_P D kl [(ir, .inl (cI, 320, .inl fi)), (h, .inr (4, [.ref la, .ref sq, .ref ir]))] H := hP
  have hD : va_D A [(ir, .inl (cI, 320, .inl fi)), (h, .inr (4, [.ref la, .ref sq, .ref ir]))] := hD
  have c2_0 := hw_2
  have c2_0 : r_2.toInt = b.toInt * 40 + j.toInt := c2_0
  refine lv_iload hx hb dX5_carry_21 (lv_at hl 5 rfl) ?_
  have h1_48 := zi_cn (x := r_1) (by omega)
  have h2_48 := zi_cn (x := r_2) (by omega)
  have h3_48 := zi_cn (x := n) (by omega)
  refine va_copyi hx hb (hml.trans hl.1.symm) hown (hts (.methodLink RX5 48 arraycopyName) (List.mem_of_getElem? (i := 2) rfl)) (hts (.native arraycopyName) (List.mem_of_getElem? (i := 3) rfl)) (hts (.static arraycopyName) (List.mem_of_getElem? (i := 4) rfl)) (hts (.initialized "java/lang/System") (List.mem_of_getElem? (i := 5) rfl)) hK hP hD hS 0 0 0 0 rfl rfl rfl rfl rfl (zi_nneg (by omega)) (zi_nneg (by omega)) (zi_nneg (by omega)) (by omega) (by omega) (fun i hi => rfl) (Nat.le_of_ble_eq_true rfl) (Nat.le_of_ble_eq_true rfl) dX5_carry_23 (fun H locs hP hD hS => ?_)
  have hP : va_P D kl [(ir, .inl (cI, 320, .inl (va_cpy fi fi (r_1 : Int32).toNatClampNeg (r_2 : Int32).toNatClampNeg (n : Int32).toNatClampNeg))), (h, .inr (4, [.ref la, .ref sq, .ref ir]))] H := hP
  have hD : va_D A [(ir, .inl (cI, 320, .inl (va_cpy fi fi (r_1 : Int32).toNatClampNeg (r_2 : Int32).toNatClampNeg (n : Int32).toNatClampNeg))), (h, .inr (4, [.ref la, .ref sq, .ref ir]))] := hD
  exact wr_v hx hb hr hlocks hS (va_cpy fi fi (r_1 : Int32).toNatClampNeg (r_2 : Int32).toNatClampNeg (n : Int32).toNatClampNeg) (by trivial) (hP.sub [1, 0] rfl) (hD.sub [1, 0] (by decide) rfl) dX5_carry_26
