set_option maxHeartbeats 4000000 in
set_option maxRecDepth 100000 in
theorem g_X5_isRow (l : Launch) (D : va_G) (cI cB cQ : ClassId) (sz : Nat) (v : Int32) : mi l yX5_isRow wsX5_isRow ({ frames := 1, cells := 0, slots := 0, locals := 22 }) D cI cB cQ [.int v] sz [] (fun (r : Int32) (_u : Unit) => ((r = 1 ∧ 0 ≤ v.toInt ∧ v.toInt ≤ 7) ∨ (r = 0 ∧ ¬ (0 ≤ v.toInt ∧ v.toInt ≤ 7)))) (fun _ => []) 0 0 := by
  refine wm_i (cc := cX5_isRow) (maxL := 1) (ret := (some .boolean)) (by decide) rfl (Nat.le_of_ble_eq_true rfl) ?_
  intro p e s m below meth c A ls hx hb hr hml hown hts hlocks hin hP hK hD hN hA hl hS
  have hown : s.vm.findClass RX5 = some m.cls := hown
  have hl : lv_has ls 1 [(0, .int v)] := hl
  change W p l e ({ frames := 1, cells := 0, slots := 0, locals := 22 }) s m ([.int v] : List Value).toArray below meth c s.heap [] 0 0 (MQ below (va_Qi (fun (r : Int32) (_u : Unit) => ((r = 1 ∧ 0 ≤ v.toInt ∧ v.toInt ≤ 7) ∨ (r = 0 ∧ ¬ (0 ≤ v.toInt ∧ v.toInt ≤ 7)))) (fun u t => wb D A ((fun _ => []) u) t) A) ([.int v] : List Value).toArray s 0 0 A) (F0 m 0 ls [])
  refine lv_iconst (v := 0) hx hb dX5_isRow_0 (by decide) ?_
  refine lv_iload_n hx hb dX5_isRow_1 rfl (lv_at hl 0 rfl) ?_
  refine lv_bipush (v := 7) hx hb dX5_isRow_2 (by decide) ?_
  have k_1 := (g_X7_isFrom l D cI cB cQ s.heap.size 0 v 7)
  refine wc_i (WC := []) (WR := []) (va_runSN (As := [.int 0, .int v, .int 7]) (rest := []) ⟨hx, hb, hml, hown, hts⟩ k_1 (⟨va_cnB 3 hts gX5_isRow_X7_isFrom_n27 rfl rfl rfl hN.2.2.2.2.2.1 (hts (.initialized RX7) (List.mem_of_getElem? (i := 2) rfl)) (by decide +kernel) ⟨Nat.le_of_ble_eq_true rfl, Nat.le_of_ble_eq_true rfl⟩, (hts (.static yX7_isFrom) (List.mem_of_getElem? (i := 1) rfl)), trivial⟩) (wp_S hP hK hD hN [] (by decide) rfl) rfl rfl hl.1 rfl (lv_room (Nat.le_of_ble_eq_true rfl)) dX5_isRow_4 ⟨Nat.le_of_ble_eq_true rfl, Nat.le_of_ble_eq_true rfl⟩) hP hD hS hA [] [] rfl rfl (by decide) (by decide) (fun r_1 u_1 H locs hw_1 hP hD hS => ?_)
  clear k_1
  have hP : va_P D kl [] H := hP
  have hD : va_D A [] := hD
  have c1_0 := hw_1
  rcases c1_0 with ⟨e_1, f_1⟩ | ⟨e_1, f_1⟩
  · subst e_1
    have f_1 : (0 : Int) ≤ v.toInt ∧ v.toInt ≤ (7 : Int) := f_1
    exact wr_z (v := 1) hx hb hr hlocks hS () (by exact Or.inl ⟨rfl, show 0 ≤ v.toInt ∧ v.toInt ≤ 7 from by omega⟩) (hP.sub [] rfl) (hD.sub [] (by decide) rfl) dX5_isRow_7 rfl
  · subst e_1
    have f_1 : ¬ ((0 : Int) ≤ v.toInt ∧ v.toInt ≤ (7 : Int)) := f_1
    exact wr_z (v := 0) hx hb hr hlocks hS () (by exact Or.inr (⟨rfl, show ¬ (0 ≤ v.toInt ∧ v.toInt ≤ 7) from by omega⟩)) (hP.sub [] rfl) (hD.sub [] (by decide) rfl) dX5_isRow_7 rfl
set_option maxHeartbeats 4000000 in
set_option maxRecDepth 100000 in
theorem g_X5_isLane (l : Launch) (D : va_G) (cI cB cQ : ClassId) (sz : Nat) (v : Int32) : mi l yX5_isLane wsX5_isLane ({ frames := 1, cells := 0, slots := 0, locals := 22 }) D cI cB cQ [.int v] sz [] (fun (r : Int32) (_u : Unit) => ((r = 1 ∧ 0 ≤ v.toInt ∧ v.toInt ≤ 2) ∨ (r = 0 ∧ ¬ (0 ≤ v.toInt ∧ v.toInt ≤ 2)))) (fun _ => []) 0 0 := by
  refine wm_i (cc := cX5_isLane) (maxL := 1) (ret := (some .boolean)) (by decide) rfl (Nat.le_of_ble_eq_true rfl) ?_
  intro p e s m below meth c A ls hx hb hr hml hown hts hlocks hin hP hK hD hN hA hl hS
  have hown : s.vm.findClass RX5 = some m.cls := hown
  have hl : lv_has ls 1 [(0, .int v)] := hl
  change W p l e ({ frames := 1, cells := 0, slots := 0, locals := 22 }) s m ([.int v] : List Value).toArray below meth c s.heap [] 0 0 (MQ below (va_Qi (fun (r : Int32) (_u : Unit) => ((r = 1 ∧ 0 ≤ v.toInt ∧ v.toInt ≤ 2) ∨ (r = 0 ∧ ¬ (0 ≤ v.toInt ∧ v.toInt ≤ 2)))) (fun u t => wb D A ((fun _ => []) u) t) A) ([.int v] : List Value).toArray s 0 0 A) (F0 m 0 ls [])
  refine lv_iconst (v := 0) hx hb dX5_isLane_0 (by decide) ?_
  refine lv_iload_n hx hb dX5_isLane_1 rfl (lv_at hl 0 rfl) ?_
  refine lv_iconst (v := 2) hx hb dX5_isLane_2 (by decide) ?_
  have k_1 := (g_X7_isFrom l D cI cB cQ s.heap.size 0 v 2)
  refine wc_i (WC := []) (WR := []) (va_runSN (As := [.int 0, .int v, .int 2]) (rest := []) ⟨hx, hb, hml, hown, hts⟩ k_1 (⟨va_cnB 3 hts gX5_isLane_X7_isFrom_n27 rfl rfl rfl hN.2.2.2.2.2.1 (hts (.initialized RX7) (List.mem_of_getElem? (i := 2) rfl)) (by decide +kernel) ⟨Nat.le_of_ble_eq_true rfl, Nat.le_of_ble_eq_true rfl⟩, (hts (.static yX7_isFrom) (List.mem_of_getElem? (i := 1) rfl)), trivial⟩) (wp_S hP hK hD hN [] (by decide) rfl) rfl rfl hl.1 rfl (lv_room (Nat.le_of_ble_eq_true rfl)) dX5_isLane_3 ⟨Nat.le_of_ble_eq_true rfl, Nat.le_of_ble_eq_true rfl⟩) hP hD hS hA [] [] rfl rfl (by decide) (by decide) (fun r_1 u_1 H locs hw_1 hP hD hS => ?_)
  clear k_1
  have hP : va_P D kl [] H := hP
  have hD : va_D A [] := hD
  have c1_0 := hw_1
  rcases c1_0 with ⟨e_1, f_1⟩ | ⟨e_1, f_1⟩
  · subst e_1
    have f_1 : (0 : Int) ≤ v.toInt ∧ v.toInt ≤ (2 : Int) := f_1
    exact wr_z (v := 1) hx hb hr hlocks hS () (by exact Or.inl ⟨rfl, show 0 ≤ v.toInt ∧ v.toInt ≤ 2 from by omega⟩) (hP.sub [] rfl) (hD.sub [] (by decide) rfl) dX5_isLane_6 rfl
  · subst e_1
    have f_1 : ¬ ((0 : Int) ≤ v.toInt ∧ v.toInt ≤ (2 : Int)) := f_1
    exact wr_z (v := 0) hx hb hr hlocks hS () (by exact Or.inr (⟨rfl, show ¬ (0 ≤ v.toInt ∧ v.toInt ≤ 2) from by omega⟩)) (hP.sub [] rfl) (hD.sub [] (by decide) rfl) dX5_isLane_6 rfl
set_option maxHeartbeats 4000000 in
set_option maxRecDepth 100000 in
theorem g_X5_indexOf (l : Launch) (D : va_G) (cI cB cQ : ClassId) (sz : Nat) (h : Nat) (la : Nat) (sq : Nat) (ir : Nat) (v : Int32) (i : Int32) (h_v : 0 ≤ v.toInt ∧ v.toInt ≤ 7) (h_i : 0 ≤ i.toInt ∧ i.toInt ≤ 40) : mi l yX5_indexOf wsX5_indexOf ({ frames := 0, cells := 0, slots := 0, locals := 0 }) D cI cB cQ [.ref h, .int v, .int i] sz [(h, .inr (4, [.ref la, .ref sq, .ref ir]))] (fun (r : Int32) (_u : Unit) => (r.toInt = v.toInt * 40 + i.toInt)) (fun _ => [(h, .inr (4, [.ref la, .ref sq, .ref ir]))]) 0 0 := by
  refine wm_i (cc := cX5_indexOf) (maxL := 3) (ret := (some .int)) (by decide) rfl (Nat.le_of_ble_eq_true rfl) ?_
  intro p e s m below meth c A ls hx hb hr hml hown hts hlocks hin hP hK hD hN hA hl hS
  have hown : s.vm.findClass RX5 = some m.cls := hown
  have hl : lv_has ls 3 [(0, .ref h), (1, .int v), (2, .int i)] := hl
  change W p l e ({ frames := 0, cells := 0, slots := 0, locals := 0 }) s m ([.ref h, .int v, .int i] : List Value).toArray below meth c s.heap [] 0 0 (MQ below (va_Qi (fun (r : Int32) (_u : Unit) => (r.toInt = v.toInt * 40 + i.toInt)) (fun u t => wb D A ((fun _ => [(h, .inr (4, [.ref la, .ref sq, .ref ir]))]) u) t) A) ([.ref h, .int v, .int i] : List Value).toArray s 0 0 A) (F0 m 0 ls [])
  refine lv_iload_n hx hb dX5_indexOf_0 rfl (lv_at hl 1 rfl) ?_
  refine lv_bipush (v := 40) hx hb dX5_indexOf_1 (by decide) ?_
  refine lv_imul hx hb dX5_indexOf_3 ?_
  refine lv_topi (fun x_1 ex_1 => ?_)
  have e_1 : x_1.toInt = v.toInt * 40 := by rw [ex_1]; exact zi_mul (rfl) (by decide) (by omega) (by omega)
  clear ex_1
  refine lv_iload_n hx hb dX5_indexOf_4 rfl (lv_at hl 2 rfl) ?_
  refine lv_iadd hx hb dX5_indexOf_5 ?_
  refine lv_topi (fun x_2 ex_2 => ?_)
  have e_2 : x_2.toInt = x_1.toInt + i.toInt := by rw [ex_2]; exact zi_add (rfl) (rfl) (by omega) (by omega)
  clear ex_2
  exact wr_i (v := x_2) hx hb hr hlocks hS () (by exact show x_2.toInt = v.toInt * 40 + i.toInt from by omega) (hP.sub [0] rfl) (hD.sub [0] (by decide) rfl) dX5_indexOf_6
set_option maxHeartbeats 4000000 in
set_option maxRecDepth 100000 in
theorem g_X5_carry (l : Launch) (D : va_G) (cI cB cQ : ClassId) (sz : Nat) (h : Nat) (la : Nat) (sq : Nat) (ir : Nat) (v : Int32) (i : Int32) (b : Int32) (j : Int32) (n : Int32) (fi : Nat → Int32) (h_v : 0 ≤ v.toInt ∧ v.toInt ≤ 7) (h_b : 0 ≤ b.toInt ∧ b.toInt ≤ 7) (h_i : 0 ≤ i.toInt ∧ i.toInt ≤ 40) (h_j : 0 ≤ j.toInt ∧ j.toInt ≤ 40) (h_n : 0 ≤ n.toInt ∧ n.toInt ≤ 40) (h_x : i.toInt + n.toInt ≤ 40 ∧ j.toInt + n.toInt ≤ 40) : mv l yX5_carry wsX5_carry ({ frames := 1, cells := 0, slots := 0, locals := 80 }) D cI cB cQ [.ref h, .int v, .int i, .int b, .int j, .int n] sz [(h, .inr (4, [.ref la, .ref sq, .ref ir])), (ir, .inl (cI, 320, .inl fi))] (fun (u : (Nat → Int32)) => True) (fun u => [(h, .inr (4, [.ref la, .ref sq, .ref ir])), (ir, .inl (cI, 320, .inl u))]) 0 0 := by
  refine wm_v (cc := cX5_carry) (maxL := 6) (ret := none) (by decide) rfl (Nat.le_of_ble_eq_true rfl) ?_
  intro p e s m below meth c A ls hx hb hr hml hown hts hlocks hin hP hK hD hN hA hl hS
  have hown : s.vm.findClass RX5 = some m.cls := hown
  have hl : lv_has ls 6 [(0, .ref h), (1, .int v), (2, .int i), (3, .int b), (4, .int j), (5, .int n)] := hl
  change W p l e ({ frames := 1, cells := 0, slots := 0, locals := 80 }) s m ([.ref h, .int v, .int i, .int b, .int j, .int n] : List Value).toArray below meth c s.heap [] 0 0 (MQ below (va_Qv (fun (u : (Nat → Int32)) => True) (fun u t => wb D A ((fun u => [(h, .inr (4, [.ref la, .ref sq, .ref ir])), (ir, .inl (cI, 320, .inl u))]) u) t) A) ([.ref h, .int v, .int i, .int b, .int j, .int n] : List Value).toArray s 0 0 A) (F0 m 0 ls [])
  refine lv_aload_n hx hb dX5_carry_0 rfl (lv_at hl 0 rfl) ?_
  refine va_get (D := D) (ci := 4) (v := .ref ir) (C := RX5) (T := TX5) (N := 3) hx hb hts (fun _ h => List.mem_cons_of_mem _ (List.mem_append_right _ h)) hown hK hP 0 rfl rfl 2 (by decide) (hts (.fieldLink RX5 18 "WinterWalk$Rows" "items" "[I") (List.mem_of_getElem? (i := 1) rfl)) (fun _ h9 => h9) rfl dX5_carry_1 ?_
  refine lv_aload_n hx hb dX5_carry_4 rfl (lv_at hl 0 rfl) ?_
  refine lv_iload_n hx hb dX5_carry_5 rfl (lv_at hl 1 rfl) ?_
  refine lv_iload_n hx hb dX5_carry_6 rfl (lv_at hl 2 rfl) ?_
  have k_1 := (g_X5_indexOf l D cI cB cQ s.heap.size h la sq ir v i (by omega) (by omega))
  refine wc_i (WC := [(h, .inr (4, [.ref la, .ref sq, .ref ir]))]) (WR := [(ir, .inl (cI, 320, .inl fi))]) (va_runV (As := [.int v, .int i]) (rest := [.ref ir]) ⟨hx, hb, hml, hown, hts⟩ k_1 (cwV 2 hts gX5_carry_X5_indexOf rfl rfl rfl (by decide +kernel) ⟨Nat.le_of_ble_eq_true rfl, Nat.le_of_ble_eq_true rfl⟩) (wp_V hP hK hD hN [0] (by decide) rfl (ci := 4) rfl rfl) rfl rfl hl.1 rfl (lv_room (Nat.le_of_ble_eq_true rfl)) dX5_carry_7 ⟨Nat.le_of_ble_eq_true rfl, Nat.le_of_ble_eq_true rfl⟩) hP hD hS hA [0] [1] rfl rfl (by decide) (by decide) (fun r_1 u_1 H locs hw_1 hP hD hS => ?_)
  clear k_1
  have hP : va_P D kl [(ir, .inl (cI, 320, .inl fi)), (h, .inr (4, [.ref la, .ref sq, .ref ir]))] H := hP
  have hD : va_D A [(ir, .inl (cI, 320, .inl fi)), (h, .inr (4, [.ref la, .ref sq, .ref ir]))] := hD
  have c1_0 := hw_1
  have c1_0 : r_1.toInt = v.toInt * 40 + i.toInt := c1_0
  refine lv_aload_n hx hb dX5_carry_10 rfl (lv_at hl 0 rfl) ?_
  refine va_get (D := D) (ci := 4) (v := .ref ir) (C := RX5) (T := TX5) (N := 3) hx hb hts (fun _ h => List.mem_cons_of_mem _ (List.mem_append_right _ h)) hown hK hP 1 rfl rfl 2 (by decide) (hts (.fieldLink RX5 18 "WinterWalk$Rows" "items" "[I") (List.mem_of_getElem? (i := 1) rfl)) (fun _ h9 => h9) rfl dX5_carry_11 ?_
  refine lv_aload_n hx hb dX5_carry_14 rfl (lv_at hl 0 rfl) ?_
  refine lv_iload_n hx hb dX5_carry_15 rfl (lv_at hl 3 rfl) ?_
  refine lv_iload hx hb dX5_carry_16 (lv_at hl 4 rfl) ?_
  have k_2 := (g_X5_indexOf l D cI cB cQ H.size h la sq ir b j (by omega) (by omega))
  refine wc_i (WC := [(h, .inr (4, [.ref la, .ref sq, .ref ir]))]) (WR := [(ir, .inl (cI, 320, .inl fi))]) (va_runV (As := [.int b, .int j]) (rest := [.ref ir, .int r_1, .ref ir]) ⟨hx, hb, hml, hown, hts⟩ k_2 (cwV 2 hts gX5_carry_X5_indexOf rfl rfl rfl (by decide +kernel) ⟨Nat.le_of_ble_eq_true rfl, Nat.le_of_ble_eq_true rfl⟩) (wp_V hP hK hD hN [1] (by decide) rfl (ci := 4) rfl rfl) rfl rfl hl.1 rfl (lv_room (Nat.le_of_ble_eq_true rfl)) dX5_carry_18 ⟨Nat.le_of_ble_eq_true rfl, Nat.le_of_ble_eq_true rfl⟩) hP hD hS hA [1] [0] rfl rfl (by decide) (by decide) (fun r_2 u_2 H locs hw_2 hP hD hS => ?_)
  clear k_2
  have hP : va_P D kl [(ir, .inl (cI, 320, .inl fi)), (h, .inr (4, [.ref la, .ref sq, .ref ir]))] H := hP
  have hD : va_D A [(ir, .inl (cI, 320, .inl fi)), (h, .inr (4, [.ref la, .ref sq, .ref ir]))] := hD
  have c2_0 := hw_2
  have c2_0 : r_2.toInt = b.toInt * 40 + j.toInt := c2_0
  refine lv_iload hx hb dX5_carry_21 (lv_at hl 5 rfl) ?_
  have h1_48 := zi_cn (x := r_1) (by omega)
  have h2_48 := zi_cn (x := r_2) (by omega)
  have h3_48 := zi_cn (x := n) (by omega)
  refine va_copyi hx hb (hml.trans hl.1.symm) hown (hts (.methodLink RX5 48 arraycopyName) (List.mem_of_getElem? (i := 2) rfl)) (hts (.native arraycopyName) (List.mem_of_getElem? (i := 3) rfl)) (hts (.static arraycopyName) (List.mem_of_getElem? (i := 4) rfl)) (hts (.initialized "java/lang/System") (List.mem_of_getElem? (i := 5) rfl)) hK hP hD hS 0 0 0 0 rfl rfl rfl rfl rfl (zi_nneg (by omega)) (zi_nneg (by omega)) (zi_nneg (by omega)) (by omega) (by omega) (fun i hi => rfl) (Nat.le_of_ble_eq_true rfl) (Nat.le_of_ble_eq_true rfl) dX5_carry_23 (fun H locs hP hD hS => ?_)
  have hP : va_P D kl [(ir, .inl (cI, 320, .inl (va_cpy fi fi (r_1 : Int32).toNatClampNeg (r_2 : Int32).toNatClampNeg (n : Int32).toNatClampNeg))), (h, .inr (4, [.ref la, .ref sq, .ref ir]))] H := hP
  have hD : va_D A [(ir, .inl (cI, 320, .inl (va_cpy fi fi (r_1 : Int32).toNatClampNeg (r_2 : Int32).toNatClampNeg (n : Int32).toNatClampNeg))), (h, .inr (4, [.ref la, .ref sq, .ref ir]))] := hD
  exact wr_v hx hb hr hlocks hS (va_cpy fi fi (r_1 : Int32).toNatClampNeg (r_2 : Int32).toNatClampNeg (n : Int32).toNatClampNeg) (by trivial) (hP.sub [1, 0] rfl) (hD.sub [1, 0] (by decide) rfl) dX5_carry_26
