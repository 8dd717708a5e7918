set_option maxHeartbeats 4000000 in
set_option maxRecDepth 100000 in
theorem k_finds (l : Launch) (D : va_G) (cI cB cQ : ClassId) (sz : Nat) (h : Nat) (sl : Nat) (zs : Nat) (ln : Nat) (ir : Nat) (tk : Nat) (tb : Nat) (tr : Nat) (fz : Nat) (n : Int32) : mi l yX8_finds wsX8_finds ({ frames := 0, cells := 0, slots := 0, locals := 0 }) D cI cB cQ [.ref h, .int n] sz [(h, .inr (7, [.ref sl, .int 0, .ref zs, .ref ln, .ref ir, .ref tk, .int 0, .int 0, .ref tb, .int 0, .int 0, .int 0, .ref tr, .int 0, .ref fz, .int 0]))] (fun (r : Int32) (_u : Unit) => r = -1000010 - n) (fun _ => []) 0 0 := by
  refine wm_i (cc := cX8_finds) (maxL := 2) (ret := (some .int)) (by decide) rfl (Nat.le_of_ble_eq_true rfl) ?_
  intro p e s m below meth c A ls hx hb hr hml hown hts hlocks hin hP hK hD hN hA hl hS
  have hown : s.vm.findClass RX8 = some m.cls := hown
  have hl : lv_has ls 2 [(0, .ref h), (1, .int n)] := hl
  change W p l e ({ frames := 0, cells := 0, slots := 0, locals := 0 }) s m ([.ref h, .int n] : List Value).toArray below meth c s.heap [] 0 0 (MQ below (va_Qi (fun (r : Int32) (_u : Unit) => r = -1000010 - n) (fun u t => wb D A ((fun _ => []) u) t) A) ([.ref h, .int n] : List Value).toArray s 0 0 A) (F0 m 0 ls [])
  refine lv_aload_n hx hb dX8_finds_0 rfl (lv_at hl 0 rfl) ?_
  refine lv_iload_n hx hb dX8_finds_1 rfl (lv_at hl 1 rfl) ?_
  refine va_put (D := D) (ci := 7) (v := .int n) (ty := .int) (C := RX8) (T := TX8) (N := 16) hx hb hts (fun _ h => List.mem_cons_of_mem _ (List.mem_append_right _ h)) tyX8 tyX8_ok nmX8 hown hK hP hD hS 0 rfl rfl 6 (by decide) (hts (.fieldLink RX8 35 "WinterWalkModel" "status" "I") (List.mem_of_getElem? (i := 1) rfl)) (fun _ h9 => h9) rfl (by decide +kernel) rfl rfl (Nat.le_of_ble_eq_true rfl) dX8_finds_2 (fun H locs hP hD hS => ?_)
  have hP : va_P D kl [(h, .inr (7, [.ref sl, .int 0, .ref zs, .ref ln, .ref ir, .ref tk, .int n, .int 0, .ref tb, .int 0, .int 0, .int 0, .ref tr, .int 0, .ref fz, .int 0]))] H := hP
  have hD : va_D A [(h, .inr (7, [.ref sl, .int 0, .ref zs, .ref ln, .ref ir, .ref tk, .int n, .int 0, .ref tb, .int 0, .int 0, .int 0, .ref tr, .int 0, .ref fz, .int 0]))] := hD
  refine lv_ldc (v := (-1000010)) hx hb hown (hts (.constant RX8 39 (-1000010)) (List.mem_of_getElem? (i := 2) rfl)) dX8_finds_5 ?_
  refine lv_iload_n hx hb dX8_finds_7 rfl (lv_at hl 1 rfl) ?_
  refine lv_isub hx hb dX8_finds_8 ?_
  refine lv_topi (fun x_1 ex_1 => ?_)
  exact wr_i (v := x_1) hx hb hr hlocks hS () (by exact ex_1) (hP.sub [] rfl) (hD.sub [] (by decide) rfl) dX8_finds_9
set_option maxHeartbeats 4000000 in
set_option maxRecDepth 100000 in
theorem k_told (l : Launch) (D : va_G) (cI cB cQ : ClassId) (sz : Nat) (h : Nat) (sl : Nat) (zs : Nat) (ln : Nat) (ir : Nat) (tk : Nat) (tb : Nat) (tr : Nat) (fz : Nat) (n : Int32) : mi l yX8_told wsX8_told ({ frames := 0, cells := 0, slots := 0, locals := 0 }) D cI cB cQ [.ref h, .int n] sz [(h, .inr (7, [.ref sl, .int 0, .ref zs, .ref ln, .ref ir, .ref tk, .int 0, .int 0, .ref tb, .int 0, .int 0, .int 0, .ref tr, .int 0, .ref fz, .int 0]))] (fun (r : Int32) (_u : Unit) => r = n) (fun _ => []) 0 0 := by
  refine wm_i (cc := cX8_told) (maxL := 2) (ret := (some .int)) (by decide) rfl (Nat.le_of_ble_eq_true rfl) ?_
  intro p e s m below meth c A ls hx hb hr hml hown hts hlocks hin hP hK hD hN hA hl hS
  have hown : s.vm.findClass RX8 = some m.cls := hown
  have hl : lv_has ls 2 [(0, .ref h), (1, .int n)] := hl
  change W p l e ({ frames := 0, cells := 0, slots := 0, locals := 0 }) s m ([.ref h, .int n] : List Value).toArray below meth c s.heap [] 0 0 (MQ below (va_Qi (fun (r : Int32) (_u : Unit) => r = n) (fun u t => wb D A ((fun _ => []) u) t) A) ([.ref h, .int n] : List Value).toArray s 0 0 A) (F0 m 0 ls [])
  refine lv_aload_n hx hb dX8_told_0 rfl (lv_at hl 0 rfl) ?_
  refine lv_iconst (v := 0) hx hb dX8_told_1 (by decide) ?_
  refine va_put (D := D) (ci := 7) (v := .int 0) (ty := .int) (C := RX8) (T := TX8) (N := 16) hx hb hts (fun _ h => List.mem_cons_of_mem _ (List.mem_append_right _ h)) tyX8 tyX8_ok nmX8 hown hK hP hD hS 0 rfl rfl 6 (by decide) (hts (.fieldLink RX8 35 "WinterWalkModel" "status" "I") (List.mem_of_getElem? (i := 1) rfl)) (fun _ h9 => h9) rfl (by decide +kernel) rfl rfl (Nat.le_of_ble_eq_true rfl) dX8_told_2 (fun H locs hP hD hS => ?_)
  have hP : va_P D kl [(h, .inr (7, [.ref sl, .int 0, .ref zs, .ref ln, .ref ir, .ref tk, .int 0, .int 0, .ref tb, .int 0, .int 0, .int 0, .ref tr, .int 0, .ref fz, .int 0]))] H := hP
  have hD : va_D A [(h, .inr (7, [.ref sl, .int 0, .ref zs, .ref ln, .ref ir, .ref tk, .int 0, .int 0, .ref tb, .int 0, .int 0, .int 0, .ref tr, .int 0, .ref fz, .int 0]))] := hD
  refine lv_iload_n hx hb dX8_told_5 rfl (lv_at hl 1 rfl) ?_
  exact wr_i (v := n) hx hb hr hlocks hS () (by rfl) (hP.sub [] rfl) (hD.sub [] (by decide) rfl) dX8_told_6
set_option maxHeartbeats 4000000 in
set_option maxRecDepth 100000 in
theorem k_isVT (l : Launch) (D : va_G) (cI cB cQ : ClassId) (sz : Nat) (h : Nat) (sl : Nat) (zs : Nat) (ln : Nat) (ir : Nat) (tk : Nat) (tb : Nat) (tr : Nat) (fz : Nat) (v : Int32) : mi l yX8_isVillageThere wsX8_isVillageThere ({ frames := 1, cells := 0, slots := 0, locals := 25 }) D cI cB cQ [.ref h, .int v] sz [(h, .inr (7, [.ref sl, .int 0, .ref zs, .ref ln, .ref ir, .ref tk, .int 0, .int 0, .ref tb, .int 0, .int 0, .int 0, .ref tr, .int 0, .ref fz, .int 0])), (sl, .inl (cI, 1653, .inl (fun _ => 0)))] (fun (r : Int32) (_u : Unit) => r = 0) (fun _ => [(h, .inr (7, [.ref sl, .int 0, .ref zs, .ref ln, .ref ir, .ref tk, .int 0, .int 0, .ref tb, .int 0, .int 0, .int 0, .ref tr, .int 0, .ref fz, .int 0])), (sl, .inl (cI, 1653, .inl (fun _ => 0)))]) 0 0 := by
  refine wm_i (cc := cX8_isVillageThere) (maxL := 2) (ret := (some .boolean)) (by decide) rfl (Nat.le_of_ble_eq_true rfl) ?_
  intro p e s m below meth c A ls hx hb hr hml hown hts hlocks hin hP hK hD hN hA hl hS
  have hown : s.vm.findClass RX8 = some m.cls := hown
  have hl : lv_has ls 2 [(0, .ref h), (1, .int v)] := hl
  change W p l e ({ frames := 1, cells := 0, slots := 0, locals := 25 }) s m ([.ref h, .int v] : List Value).toArray below meth c s.heap [] 0 0 (MQ below (va_Qi (fun (r : Int32) (_u : Unit) => r = 0) (fun u t => wb D A ((fun _ => [(h, .inr (7, [.ref sl, .int 0, .ref zs, .ref ln, .ref ir, .ref tk, .int 0, .int 0, .ref tb, .int 0, .int 0, .int 0, .ref tr, .int 0, .ref fz, .int 0])), (sl, .inl (cI, 1653, .inl (fun _ => 0)))]) u) t) A) ([.ref h, .int v] : List Value).toArray s 0 0 A) (F0 m 0 ls [])
  refine lv_iload_n hx hb dX8_isVillageThere_0 rfl (lv_at hl 1 rfl) ?_
  refine lv_i2l (v := (v.toInt64)) hx hb dX8_isVillageThere_1 rfl ?_
  refine lv_lconst (v := 0) hx hb dX8_isVillageThere_2 (by decide) ?_
  refine lv_aload_n hx hb dX8_isVillageThere_3 rfl (lv_at hl 0 rfl) ?_
  refine va_get (D := D) (ci := 7) (v := .ref sl) (C := RX8) (T := TX8) (N := 16) hx hb hts (fun _ h => List.mem_cons_of_mem _ (List.mem_append_right _ h)) hown hK hP 0 rfl rfl 0 (by decide) (hts (.fieldLink RX8 7 "WinterWalkModel" "slot" "[I") (List.mem_of_getElem? (i := 1) rfl)) (fun _ h9 => h9) rfl dX8_isVillageThere_4 ?_
  refine lv_iconst (v := 1) hx hb dX8_isVillageThere_7 (by decide) ?_
  refine va_iald hx hb hK hP 1 0 rfl rfl (zi_in (by decide) (by decide)) dX8_isVillageThere_8 ?_
  refine lv_topi (fun x_1 ex_1 => ?_)
  obtain rfl : x_1 = 0 := ex_1
  refine lv_iconst (v := 1) hx hb dX8_isVillageThere_9 (by decide) ?_
  refine lv_isub hx hb dX8_isVillageThere_10 ?_
  refine lv_topi (fun x_2 ex_2 => ?_)
  obtain rfl : x_2 = (-1) := ex_2.trans (by decide)
  refine lv_i2l (v := (-1)) hx hb dX8_isVillageThere_11 (by decide) ?_
  have k_3 := (k_in l D cI cB cQ s.heap.size (v.toInt64) 0 (-1))
  refine wc_i (WC := []) (WR := [(h, .inr (7, [.ref sl, .int 0, .ref zs, .ref ln, .ref ir, .ref tk, .int 0, .int 0, .ref tb, .int 0, .int 0, .int 0, .ref tr, .int 0, .ref fz, .int 0])), (sl, .inl (cI, 1653, .inl (fun _ => 0)))]) (va_runS (As := [.long (v.toInt64), .long 0, .long (-1)]) (rest := []) ⟨hx, hb, hml, hown, hts⟩ k_3 (va_cwS 3 hts gX8_isVillageThere_X8_in rfl rfl rfl (by decide +kernel) ⟨Nat.le_of_ble_eq_true rfl, Nat.le_of_ble_eq_true rfl⟩) (wp_S hP hK hD hN [] (by decide) rfl) rfl rfl hl.1 rfl (lv_room (Nat.le_of_ble_eq_true rfl)) dX8_isVillageThere_12 ⟨Nat.le_of_ble_eq_true rfl, Nat.le_of_ble_eq_true rfl⟩) hP hD hS hA [] [0, 1] rfl rfl (by decide) (by decide) (fun r_3 u_3 H locs hw_3 hP hD hS => ?_)
  have hP : va_P D kl [(h, .inr (7, [.ref sl, .int 0, .ref zs, .ref ln, .ref ir, .ref tk, .int 0, .int 0, .ref tb, .int 0, .int 0, .int 0, .ref tr, .int 0, .ref fz, .int 0])), (sl, .inl (cI, 1653, .inl (fun _ => 0)))] H := hP
  have hD : va_D A [(h, .inr (7, [.ref sl, .int 0, .ref zs, .ref ln, .ref ir, .ref tk, .int 0, .int 0, .ref tb, .int 0, .int 0, .int 0, .ref tr, .int 0, .ref fz, .int 0])), (sl, .inl (cI, 1653, .inl (fun _ => 0)))] := hD
  rcases hw_3 with ⟨e_3, f_3⟩ | ⟨e_3, f_3⟩
  · subst e_3
    have f_3 : 0 ≤ v.toInt ∧ v.toInt ≤ (-1) := by
      have h8 := f_3
      try rw [zl_of] at h8
      exact h8
    exfalso; omega
  · subst e_3
    have f_3 : ¬ (0 ≤ v.toInt ∧ v.toInt ≤ (-1)) := by
      have h8 := f_3
      try rw [zl_of] at h8
      exact h8
    exact wr_z (v := 0) hx hb hr hlocks hS () (by rfl) (hP.sub [0, 1] rfl) (hD.sub [0, 1] (by decide) rfl) dX8_isVillageThere_15 rfl
set_option maxHeartbeats 4000000 in
set_option maxRecDepth 100000 in
theorem k_isWT (l : Launch) (D : va_G) (cI cB cQ : ClassId) (sz : Nat) (h : Nat) (sl : Nat) (zs : Nat) (ln : Nat) (ir : Nat) (tk : Nat) (tb : Nat) (tr : Nat) (fz : Nat) (v : Int32) : mi l yX8_isWalkerThere wsX8_isWalkerThere ({ frames := 1, cells := 0, slots := 0, locals := 25 }) D cI cB cQ [.ref h, .int v] sz [(h, .inr (7, [.ref sl, .int 0, .ref zs, .ref ln, .ref ir, .ref tk, .int 0, .int 0, .ref tb, .int 0, .int 0, .int 0, .ref tr, .int 0, .ref fz, .int 0])), (sl, .inl (cI, 1653, .inl (fun _ => 0)))] (fun (r : Int32) (_u : Unit) => r = 0) (fun _ => [(h, .inr (7, [.ref sl, .int 0, .ref zs, .ref ln, .ref ir, .ref tk, .int 0, .int 0, .ref tb, .int 0, .int 0, .int 0, .ref tr, .int 0, .ref fz, .int 0])), (sl, .inl (cI, 1653, .inl (fun _ => 0)))]) 0 0 := by
  refine wm_i (cc := cX8_isWalkerThere) (maxL := 2) (ret := (some .boolean)) (by decide) rfl (Nat.le_of_ble_eq_true rfl) ?_
  intro p e s m below meth c A ls hx hb hr hml hown hts hlocks hin hP hK hD hN hA hl hS
  have hown : s.vm.findClass RX8 = some m.cls := hown
  have hl : lv_has ls 2 [(0, .ref h), (1, .int v)] := hl
  change W p l e ({ frames := 1, cells := 0, slots := 0, locals := 25 }) s m ([.ref h, .int v] : List Value).toArray below meth c s.heap [] 0 0 (MQ below (va_Qi (fun (r : Int32) (_u : Unit) => r = 0) (fun u t => wb D A ((fun _ => [(h, .inr (7, [.ref sl, .int 0, .ref zs, .ref ln, .ref ir, .ref tk, .int 0, .int 0, .ref tb, .int 0, .int 0, .int 0, .ref tr, .int 0, .ref fz, .int 0])), (sl, .inl (cI, 1653, .inl (fun _ => 0)))]) u) t) A) ([.ref h, .int v] : List Value).toArray s 0 0 A) (F0 m 0 ls [])
  refine lv_iload_n hx hb dX8_isWalkerThere_0 rfl (lv_at hl 1 rfl) ?_
  refine lv_i2l (v := (v.toInt64)) hx hb dX8_isWalkerThere_1 rfl ?_
  refine lv_lconst (v := 0) hx hb dX8_isWalkerThere_2 (by decide) ?_
  refine lv_aload_n hx hb dX8_isWalkerThere_3 rfl (lv_at hl 0 rfl) ?_
  refine va_get (D := D) (ci := 7) (v := .ref sl) (C := RX8) (T := TX8) (N := 16) hx hb hts (fun _ h => List.mem_cons_of_mem _ (List.mem_append_right _ h)) hown hK hP 0 rfl rfl 0 (by decide) (hts (.fieldLink RX8 7 "WinterWalkModel" "slot" "[I") (List.mem_of_getElem? (i := 1) rfl)) (fun _ h9 => h9) rfl dX8_isWalkerThere_4 ?_
  refine lv_iconst (v := 2) hx hb dX8_isWalkerThere_7 (by decide) ?_
  refine va_iald hx hb hK hP 1 0 rfl rfl (zi_in (by decide) (by decide)) dX8_isWalkerThere_8 ?_
  refine lv_topi (fun x_1 ex_1 => ?_)
  obtain rfl : x_1 = 0 := ex_1
  refine lv_iconst (v := 1) hx hb dX8_isWalkerThere_9 (by decide) ?_
  refine lv_isub hx hb dX8_isWalkerThere_10 ?_
  refine lv_topi (fun x_2 ex_2 => ?_)
  obtain rfl : x_2 = (-1) := ex_2.trans (by decide)
  refine lv_i2l (v := (-1)) hx hb dX8_isWalkerThere_11 (by decide) ?_
  have k_3 := (k_in l D cI cB cQ s.heap.size (v.toInt64) 0 (-1))
  refine wc_i (WC := []) (WR := [(h, .inr (7, [.ref sl, .int 0, .ref zs, .ref ln, .ref ir, .ref tk, .int 0, .int 0, .ref tb, .int 0, .int 0, .int 0, .ref tr, .int 0, .ref fz, .int 0])), (sl, .inl (cI, 1653, .inl (fun _ => 0)))]) (va_runS (As := [.long (v.toInt64), .long 0, .long (-1)]) (rest := []) ⟨hx, hb, hml, hown, hts⟩ k_3 (va_cwS 3 hts gX8_isWalkerThere_X8_in rfl rfl rfl (by decide +kernel) ⟨Nat.le_of_ble_eq_true rfl, Nat.le_of_ble_eq_true rfl⟩) (wp_S hP hK hD hN [] (by decide) rfl) rfl rfl hl.1 rfl (lv_room (Nat.le_of_ble_eq_true rfl)) dX8_isWalkerThere_12 ⟨Nat.le_of_ble_eq_true rfl, Nat.le_of_ble_eq_true rfl⟩) hP hD hS hA [] [0, 1] rfl rfl (by decide) (by decide) (fun r_3 u_3 H locs hw_3 hP hD hS => ?_)
  have hP : va_P D kl [(h, .inr (7, [.ref sl, .int 0, .ref zs, .ref ln, .ref ir, .ref tk, .int 0, .int 0, .ref tb, .int 0, .int 0, .int 0, .ref tr, .int 0, .ref fz, .int 0])), (sl, .inl (cI, 1653, .inl (fun _ => 0)))] H := hP
  have hD : va_D A [(h, .inr (7, [.ref sl, .int 0, .ref zs, .ref ln, .ref ir, .ref tk, .int 0, .int 0, .ref tb, .int 0, .int 0, .int 0, .ref tr, .int 0, .ref fz, .int 0])), (sl, .inl (cI, 1653, .inl (fun _ => 0)))] := hD
  rcases hw_3 with ⟨e_3, f_3⟩ | ⟨e_3, f_3⟩
  · subst e_3
    have f_3 : 0 ≤ v.toInt ∧ v.toInt ≤ (-1) := by
      have h8 := f_3
      try rw [zl_of] at h8
      exact h8
    exfalso; omega
  · subst e_3
    have f_3 : ¬ (0 ≤ v.toInt ∧ v.toInt ≤ (-1)) := by
      have h8 := f_3
      try rw [zl_of] at h8
      exact h8
    exact wr_z (v := 0) hx hb hr hlocks hS () (by rfl) (hP.sub [0, 1] rfl) (hD.sub [0, 1] (by decide) rfl) dX8_isWalkerThere_15 rfl
set_option maxHeartbeats 4000000 in
set_option maxRecDepth 100000 in
theorem k_mnext (l : Launch) (D : va_G) (cI cB cQ : ClassId) (sz : Nat) (h : Nat) (sl : Nat) (zs : Nat) (ln : Nat) (ir : Nat) (tk : Nat) (tb : Nat) (tr : Nat) (fz : Nat) : mi l yX8_next wsX8_next ({ frames := 0, cells := 0, slots := 0, locals := 0 }) D cI cB cQ [.ref h] sz [(h, .inr (7, [.ref sl, .int 0, .ref zs, .ref ln, .ref ir, .ref tk, .int 0, .int 0, .ref tb, .int 0, .int 0, .int 0, .ref tr, .int 0, .ref fz, .int 0]))] (fun (r : Int32) (_u : Unit) => r = (-1)) (fun _ => [(h, .inr (7, [.ref sl, .int 0, .ref zs, .ref ln, .ref ir, .ref tk, .int 0, .int 0, .ref tb, .int 0, .int 0, .int 0, .ref tr, .int 0, .ref fz, .int 0]))]) 0 0 := by
  refine wm_i (cc := cX8_next) (maxL := 1) (ret := (some .int)) (by decide) rfl (Nat.le_of_ble_eq_true rfl) ?_
  intro p e s m below meth c A ls hx hb hr hml hown hts hlocks hin hP hK hD hN hA hl hS
  have hown : s.vm.findClass RX8 = some m.cls := hown
  have hl : lv_has ls 1 [(0, .ref h)] := hl
  change W p l e ({ frames := 0, cells := 0, slots := 0, locals := 0 }) s m ([.ref h] : List Value).toArray below meth c s.heap [] 0 0 (MQ below (va_Qi (fun (r : Int32) (_u : Unit) => r = (-1)) (fun u t => wb D A ((fun _ => [(h, .inr (7, [.ref sl, .int 0, .ref zs, .ref ln, .ref ir, .ref tk, .int 0, .int 0, .ref tb, .int 0, .int 0, .int 0, .ref tr, .int 0, .ref fz, .int 0]))]) u) t) A) ([.ref h] : List Value).toArray s 0 0 A) (F0 m 0 ls [])
  refine lv_aload_n hx hb dX8_next_0 rfl (lv_at hl 0 rfl) ?_
  refine va_get (D := D) (ci := 7) (v := .int 0) (C := RX8) (T := TX8) (N := 16) hx hb hts (fun _ h => List.mem_cons_of_mem _ (List.mem_append_right _ h)) hown hK hP 0 rfl rfl 10 (by decide) (hts (.fieldLink RX8 62 "WinterWalkModel" "at" "I") (List.mem_of_getElem? (i := 1) rfl)) (fun _ h9 => h9) rfl dX8_next_1 ?_
  refine lv_aload_n hx hb dX8_next_4 rfl (lv_at hl 0 rfl) ?_
  refine va_get (D := D) (ci := 7) (v := .int 0) (C := RX8) (T := TX8) (N := 16) hx hb hts (fun _ h => List.mem_cons_of_mem _ (List.mem_append_right _ h)) hown hK hP 0 rfl rfl 7 (by decide) (hts (.fieldLink RX8 58 "WinterWalkModel" "length" "I") (List.mem_of_getElem? (i := 2) rfl)) (fun _ h9 => h9) rfl dX8_next_5 ?_
  refine lv_icmp_ge (tgt := 23) hx hb dX8_next_8 (by decide) (fun _ => ?_) (fun c9 => absurd (by decide) c9)
  refine lv_iconst (v := (-1)) hx hb dX8_next_23 (by decide) ?_
  exact wr_i (v := (-1)) hx hb hr hlocks hS () (by rfl) (hP.sub [0] rfl) (hD.sub [0] (by decide) rfl) dX8_next_24
set_option maxHeartbeats 4000000 in
set_option maxRecDepth 100000 in
theorem k_mfails (l : Launch) (D : va_G) (cI cB cQ : ClassId) (sz : Nat) (h : Nat) (sl : Nat) (zs : Nat) (ln : Nat) (ir : Nat) (tk : Nat) (tb : Nat) (tr : Nat) (fz : Nat) : mi l yX8_fails wsX8_fails ({ frames := 0, cells := 0, slots := 0, locals := 0 }) D cI cB cQ [.ref h, .int 1, .int 0] sz [(h, .inr (7, [.ref sl, .int 0, .ref zs, .ref ln, .ref ir, .ref tk, .int 0, .int 0, .ref tb, .int 0, .int 0, .int 0, .ref tr, .int 0, .ref fz, .int 0]))] (fun (r : Int32) (_u : Unit) => r = 0) (fun _ => [(h, .inr (7, [.ref sl, .int 0, .ref zs, .ref ln, .ref ir, .ref tk, .int 0, .int 0, .ref tb, .int 1, .int 0, .int 0, .ref tr, .int 0, .ref fz, .int 0]))]) 0 0 := by
  refine wm_i (cc := cX8_fails) (maxL := 3) (ret := (some .boolean)) (by decide) rfl (Nat.le_of_ble_eq_true rfl) ?_
  intro p e s m below meth c A ls hx hb hr hml hown hts hlocks hin hP hK hD hN hA hl hS
  have hown : s.vm.findClass RX8 = some m.cls := hown
  have hl : lv_has ls 3 [(0, .ref h), (1, .int 1), (2, .int 0)] := hl
  change W p l e ({ frames := 0, cells := 0, slots := 0, locals := 0 }) s m ([.ref h, .int 1, .int 0] : List Value).toArray below meth c s.heap [] 0 0 (MQ below (va_Qi (fun (r : Int32) (_u : Unit) => r = 0) (fun u t => wb D A ((fun _ => [(h, .inr (7, [.ref sl, .int 0, .ref zs, .ref ln, .ref ir, .ref tk, .int 0, .int 0, .ref tb, .int 1, .int 0, .int 0, .ref tr, .int 0, .ref fz, .int 0]))]) u) t) A) ([.ref h, .int 1, .int 0] : List Value).toArray s 0 0 A) (F0 m 0 ls [])
  refine lv_aload_n hx hb dX8_fails_0 rfl (lv_at hl 0 rfl) ?_
  refine lv_iload_n hx hb dX8_fails_1 rfl (lv_at hl 1 rfl) ?_
  refine va_put (D := D) (ci := 7) (v := .int 1) (ty := .int) (C := RX8) (T := TX8) (N := 16) hx hb hts (fun _ h => List.mem_cons_of_mem _ (List.mem_append_right _ h)) tyX8 tyX8_ok nmX8 hown hK hP hD hS 0 rfl rfl 9 (by decide) (hts (.fieldLink RX8 65 "WinterWalkModel" "fault" "I") (List.mem_of_getElem? (i := 1) rfl)) (fun _ h9 => h9) rfl (by decide +kernel) rfl rfl (Nat.le_of_ble_eq_true rfl) dX8_fails_2 (fun H locs hP hD hS => ?_)
  have hP : va_P D kl [(h, .inr (7, [.ref sl, .int 0, .ref zs, .ref ln, .ref ir, .ref tk, .int 0, .int 0, .ref tb, .int 1, .int 0, .int 0, .ref tr, .int 0, .ref fz, .int 0]))] H := hP
  have hD : va_D A [(h, .inr (7, [.ref sl, .int 0, .ref zs, .ref ln, .ref ir, .ref tk, .int 0, .int 0, .ref tb, .int 1, .int 0, .int 0, .ref tr, .int 0, .ref fz, .int 0]))] := hD
  refine lv_aload_n hx hb dX8_fails_5 rfl (lv_at hl 0 rfl) ?_
  refine lv_iload_n hx hb dX8_fails_6 rfl (lv_at hl 2 rfl) ?_
  refine va_put (D := D) (ci := 7) (v := .int 0) (ty := .int) (C := RX8) (T := TX8) (N := 16) hx hb hts (fun _ h => List.mem_cons_of_mem _ (List.mem_append_right _ h)) tyX8 tyX8_ok nmX8 hown hK hP hD hS 0 rfl rfl 11 (by decide) (hts (.fieldLink RX8 68 "WinterWalkModel" "place" "I") (List.mem_of_getElem? (i := 2) rfl)) (fun _ h9 => h9) rfl (by decide +kernel) rfl rfl (Nat.le_of_ble_eq_true rfl) dX8_fails_7 (fun H locs hP hD hS => ?_)
  have hP : va_P D kl [(h, .inr (7, [.ref sl, .int 0, .ref zs, .ref ln, .ref ir, .ref tk, .int 0, .int 0, .ref tb, .int 1, .int 0, .int 0, .ref tr, .int 0, .ref fz, .int 0]))] H := hP
  have hD : va_D A [(h, .inr (7, [.ref sl, .int 0, .ref zs, .ref ln, .ref ir, .ref tk, .int 0, .int 0, .ref tb, .int 1, .int 0, .int 0, .ref tr, .int 0, .ref fz, .int 0]))] := hD
  refine lv_iconst (v := 0) hx hb dX8_fails_10 (by decide) ?_
  exact wr_z (v := 0) hx hb hr hlocks hS () (by rfl) (hP.sub [0] rfl) (hD.sub [0] (by decide) rfl) dX8_fails_11 rfl
set_option maxHeartbeats 4000000 in
set_option maxRecDepth 100000 in
theorem k_mSign (l : Launch) (D : va_G) (cI cB cQ : ClassId) (sz : Nat) (h : Nat) (sl : Nat) (zs : Nat) (ln : Nat) (ir : Nat) (tk : Nat) (tb : Nat) (tr : Nat) (fz : Nat) : mi l yX8_isSign wsX8_isSign ({ frames := 1, cells := 0, slots := 0, locals := 22 }) D cI cB cQ [.ref h, .int 102] sz [(h, .inr (7, [.ref sl, .int 0, .ref zs, .ref ln, .ref ir, .ref tk, .int 0, .int 0, .ref tb, .int 0, .int 0, .int 0, .ref tr, .int 0, .ref fz, .int 0]))] (fun (r : Int32) (_u : Unit) => r = 0) (fun _ => [(h, .inr (7, [.ref sl, .int 0, .ref zs, .ref ln, .ref ir, .ref tk, .int 0, .int 0, .ref tb, .int 1, .int 0, .int 0, .ref tr, .int 0, .ref fz, .int 0]))]) 0 0 := by
  refine wm_i (cc := cX8_isSign) (maxL := 2) (ret := (some .boolean)) (by decide) rfl (Nat.le_of_ble_eq_true rfl) ?_
  intro p e s m below meth c A ls hx hb hr hml hown hts hlocks hin hP hK hD hN hA hl hS
  have hown : s.vm.findClass RX8 = some m.cls := hown
  have hl : lv_has ls 2 [(0, .ref h), (1, .int 102)] := hl
  change W p l e ({ frames := 1, cells := 0, slots := 0, locals := 22 }) s m ([.ref h, .int 102] : List Value).toArray below meth c s.heap [] 0 0 (MQ below (va_Qi (fun (r : Int32) (_u : Unit) => r = 0) (fun u t => wb D A ((fun _ => [(h, .inr (7, [.ref sl, .int 0, .ref zs, .ref ln, .ref ir, .ref tk, .int 0, .int 0, .ref tb, .int 1, .int 0, .int 0, .ref tr, .int 0, .ref fz, .int 0]))]) u) t) A) ([.ref h, .int 102] : List Value).toArray s 0 0 A) (F0 m 0 ls [])
  refine lv_aload_n hx hb dX8_isSign_0 rfl (lv_at hl 0 rfl) ?_
  have k_1 := (k_mnext l D cI cB cQ s.heap.size h sl zs ln ir tk tb tr fz)
  refine wc_i (WC := [(h, .inr (7, [.ref sl, .int 0, .ref zs, .ref ln, .ref ir, .ref tk, .int 0, .int 0, .ref tb, .int 0, .int 0, .int 0, .ref tr, .int 0, .ref fz, .int 0]))]) (WR := []) (va_runV (As := []) (rest := []) ⟨hx, hb, hml, hown, hts⟩ k_1 (cwV 0 hts gX8_isSign_X8_next rfl rfl rfl (by decide +kernel) ⟨Nat.le_of_ble_eq_true rfl, Nat.le_of_ble_eq_true rfl⟩) (wp_V hP hK hD hN [0] (by decide) rfl (ci := 7) rfl rfl) rfl rfl hl.1 rfl (lv_room (Nat.le_of_ble_eq_true rfl)) dX8_isSign_1 ⟨Nat.le_of_ble_eq_true rfl, Nat.le_of_ble_eq_true rfl⟩) hP hD hS hA [0] [] rfl rfl (by decide) (by decide) (fun r_1 u_1 H locs hw_1 hP hD hS => ?_)
  have hP : va_P D kl [(h, .inr (7, [.ref sl, .int 0, .ref zs, .ref ln, .ref ir, .ref tk, .int 0, .int 0, .ref tb, .int 0, .int 0, .int 0, .ref tr, .int 0, .ref fz, .int 0]))] H := hP
  have hD : va_D A [(h, .inr (7, [.ref sl, .int 0, .ref zs, .ref ln, .ref ir, .ref tk, .int 0, .int 0, .ref tb, .int 0, .int 0, .int 0, .ref tr, .int 0, .ref fz, .int 0]))] := hD
  obtain rfl : r_1 = (-1) := by first | exact hw_1 | exact hw_1.trans (by decide)
  refine lv_iload_n hx hb dX8_isSign_4 rfl (lv_at hl 1 rfl) ?_
  refine lv_icmp_eq (tgt := 18) hx hb dX8_isSign_5 (by decide) (fun c9 => absurd c9 (by decide)) (fun _ => ?_)
  refine lv_aload_n hx hb dX8_isSign_8 rfl (lv_at hl 0 rfl) ?_
  refine lv_iconst (v := 1) hx hb dX8_isSign_9 (by decide) ?_
  refine lv_aload_n hx hb dX8_isSign_10 rfl (lv_at hl 0 rfl) ?_
  refine va_get (D := D) (ci := 7) (v := .int 0) (C := RX8) (T := TX8) (N := 16) hx hb hts (fun _ h => List.mem_cons_of_mem _ (List.mem_append_right _ h)) hown hK hP 0 rfl rfl 10 (by decide) (hts (.fieldLink RX8 62 "WinterWalkModel" "at" "I") (List.mem_of_getElem? (i := 1) rfl)) (fun _ h9 => h9) rfl dX8_isSign_11 ?_
  have k_2 := (k_mfails l D cI cB cQ H.size h sl zs ln ir tk tb tr fz)
  refine wc_i (WC := [(h, .inr (7, [.ref sl, .int 0, .ref zs, .ref ln, .ref ir, .ref tk, .int 0, .int 0, .ref tb, .int 0, .int 0, .int 0, .ref tr, .int 0, .ref fz, .int 0]))]) (WR := []) (va_runV (As := [.int 1, .int 0]) (rest := []) ⟨hx, hb, hml, hown, hts⟩ k_2 (cwV 2 hts gX8_isSign_X8_fails rfl rfl rfl (by decide +kernel) ⟨Nat.le_of_ble_eq_true rfl, Nat.le_of_ble_eq_true rfl⟩) (wp_V hP hK hD hN [0] (by decide) rfl (ci := 7) rfl rfl) rfl rfl hl.1 rfl (lv_room (Nat.le_of_ble_eq_true rfl)) dX8_isSign_14 ⟨Nat.le_of_ble_eq_true rfl, Nat.le_of_ble_eq_true rfl⟩) hP hD hS hA [0] [] rfl rfl (by decide) (by decide) (fun r_2 u_2 H locs hw_2 hP hD hS => ?_)
  have hP : va_P D kl [(h, .inr (7, [.ref sl, .int 0, .ref zs, .ref ln, .ref ir, .ref tk, .int 0, .int 0, .ref tb, .int 1, .int 0, .int 0, .ref tr, .int 0, .ref fz, .int 0]))] H := hP
  have hD : va_D A [(h, .inr (7, [.ref sl, .int 0, .ref zs, .ref ln, .ref ir, .ref tk, .int 0, .int 0, .ref tb, .int 1, .int 0, .int 0, .ref tr, .int 0, .ref fz, .int 0]))] := hD
  obtain rfl : r_2 = 0 := by first | exact hw_2 | exact hw_2.trans (by decide)
  exact wr_z (v := 0) hx hb hr hlocks hS () (by rfl) (hP.sub [0] rfl) (hD.sub [0] (by decide) rfl) dX8_isSign_17 rfl
set_option maxHeartbeats 4000000 in
set_option maxRecDepth 100000 in
theorem k_mLand (l : Launch) (D : va_G) (cI cB cQ : ClassId) (sz : Nat) (h : Nat) (sl : Nat) (zs : Nat) (ln : Nat) (ir : Nat) (tk : Nat) (tb : Nat) (tr : Nat) (fz : Nat) : mi l yX8_isLand wsX8_isLand ({ frames := 2, cells := 0, slots := 0, locals := 43 }) D cI cB cQ [.ref h] sz [(h, .inr (7, [.ref sl, .int 0, .ref zs, .ref ln, .ref ir, .ref tk, .int 0, .int 0, .ref tb, .int 0, .int 0, .int 0, .ref tr, .int 0, .ref fz, .int 0])), (sl, .inl (cI, 1653, .inl (fun _ => 0)))] (fun (r : Int32) (_u : Unit) => r = 0) (fun _ => [(h, .inr (7, [.ref sl, .int 0, .ref zs, .ref ln, .ref ir, .ref tk, .int 0, .int 0, .ref tb, .int 1, .int 0, .int 0, .ref tr, .int 0, .ref fz, .int 0]))]) 0 0 := by
  refine wm_i (cc := cX8_isLand) (maxL := 5) (ret := (some .boolean)) (by decide) rfl (Nat.le_of_ble_eq_true rfl) ?_
  intro p e s m below meth c A ls hx hb hr hml hown hts hlocks hin hP hK hD hN hA hl hS
  have hown : s.vm.findClass RX8 = some m.cls := hown
  have hl : lv_has ls 5 [(0, .ref h)] := hl
  change W p l e ({ frames := 2, cells := 0, slots := 0, locals := 43 }) s m ([.ref h] : List Value).toArray below meth c s.heap [] 0 0 (MQ below (va_Qi (fun (r : Int32) (_u : Unit) => r = 0) (fun u t => wb D A ((fun _ => [(h, .inr (7, [.ref sl, .int 0, .ref zs, .ref ln, .ref ir, .ref tk, .int 0, .int 0, .ref tb, .int 1, .int 0, .int 0, .ref tr, .int 0, .ref fz, .int 0]))]) u) t) A) ([.ref h] : List Value).toArray s 0 0 A) (F0 m 0 ls [])
  refine lv_aload_n hx hb dX8_isLand_0 rfl (lv_at hl 0 rfl) ?_
  refine lv_iconst (v := 0) hx hb dX8_isLand_1 (by decide) ?_
  refine va_put (D := D) (ci := 7) (v := .int 0) (ty := .int) (C := RX8) (T := TX8) (N := 16) hx hb hts (fun _ h => List.mem_cons_of_mem _ (List.mem_append_right _ h)) tyX8 tyX8_ok nmX8 hown hK hP hD hS 0 rfl rfl 10 (by decide) (hts (.fieldLink RX8 62 "WinterWalkModel" "at" "I") (List.mem_of_getElem? (i := 1) rfl)) (fun _ h9 => h9) rfl (by decide +kernel) rfl rfl (Nat.le_of_ble_eq_true rfl) dX8_isLand_2 (fun H locs hP hD hS => ?_)
  have hP : va_P D kl [(h, .inr (7, [.ref sl, .int 0, .ref zs, .ref ln, .ref ir, .ref tk, .int 0, .int 0, .ref tb, .int 0, .int 0, .int 0, .ref tr, .int 0, .ref fz, .int 0])), (sl, .inl (cI, 1653, .inl (fun _ => 0)))] H := hP
  have hD : va_D A [(h, .inr (7, [.ref sl, .int 0, .ref zs, .ref ln, .ref ir, .ref tk, .int 0, .int 0, .ref tb, .int 0, .int 0, .int 0, .ref tr, .int 0, .ref fz, .int 0])), (sl, .inl (cI, 1653, .inl (fun _ => 0)))] := hD
  refine lv_iconst (v := 0) hx hb dX8_isLand_5 (by decide) ?_
  refine lv_istore_n (lv' := [(1, .int 0), (0, .ref h)]) hx hb dX8_isLand_6 rfl hl (by decide) rfl (fun ls hl => ?_)
  have hloop : ∀ (n i : Nat) (g : Nat → Int32) (H : Heap) (locs : List Loc) (ls : Array Slot), i ≤ 57 → 57 + 1 ≤ i + n → va_P D kl [(h, .inr (7, [.ref sl, .int 0, .ref zs, .ref ln, .ref ir, .ref tk, .int 0, .int 0, .ref tb, .int 0, .int 0, .int 0, .ref tr, .int 0, .ref fz, .int 0])), (sl, .inl (cI, 1653, .inl g))] H → va_D A [(h, .inr (7, [.ref sl, .int 0, .ref zs, .ref ln, .ref ir, .ref tk, .int 0, .int 0, .ref tb, .int 0, .int 0, .int 0, .ref tr, .int 0, .ref fz, .int 0])), (sl, .inl (cI, 1653, .inl g))] → va_S A s.heap H locs → lv_has ls 5 [(1, .int (nI i)), (0, .ref h)] → W p l e ({ frames := 2, cells := 0, slots := 0, locals := 43 }) s m ([.ref h] : List Value).toArray below meth c H locs 0 0 (MQ below (va_Qi (fun (r : Int32) (_u : Unit) => r = 0) (fun u t => wb D A ((fun _ => [(h, .inr (7, [.ref sl, .int 0, .ref zs, .ref ln, .ref ir, .ref tk, .int 0, .int 0, .ref tb, .int 1, .int 0, .int 0, .ref tr, .int 0, .ref fz, .int 0]))]) u) t) A) ([.ref h] : List Value).toArray s 0 0 A) (F0 m 7 ls []) := by
    intro n
    induction n with
    | zero =>
      intro i g H locs ls hi0 hn0
      exact absurd hn0 (by omega)
    | succ n ih =>
      intro i g H locs ls hi0 hn0 hP hD hS hl
      refine lv_iload_n hx hb dX8_isLand_7 rfl (lv_at hl 0 rfl) ?_
      refine lv_bipush (v := 57) hx hb dX8_isLand_8 (by decide) ?_
      refine lv_icmp_ge (tgt := 30) hx hb dX8_isLand_10 (by decide) (fun c_1 => ?_) (fun c_1 => ?_)
      · have f_1 : 57 ≤ ((i : Nat) : Int) := by
          have h8 := zi_le c_1
          try rw [nI_toInt (n := i) (by omega)] at h8
          exact h8
        refine lv_aload_n hx hb dX8_isLand_30 rfl (lv_at hl 1 rfl) ?_
        refine lv_bipush (v := 102) hx hb dX8_isLand_31 (by decide) ?_
        have k_2 := (k_mSign l D cI cB cQ H.size h sl zs ln ir tk tb tr fz)
        refine wc_i (WC := [(h, .inr (7, [.ref sl, .int 0, .ref zs, .ref ln, .ref ir, .ref tk, .int 0, .int 0, .ref tb, .int 0, .int 0, .int 0, .ref tr, .int 0, .ref fz, .int 0]))]) (WR := [(sl, .inl (cI, 1653, .inl g))]) (va_runV (As := [.int 102]) (rest := []) ⟨hx, hb, hml, hown, hts⟩ k_2 (cwV 1 hts gX8_isLand_X8_isSign rfl rfl rfl (by decide +kernel) ⟨Nat.le_of_ble_eq_true rfl, Nat.le_of_ble_eq_true rfl⟩) (wp_V hP hK hD hN [0] (by decide) rfl (ci := 7) rfl rfl) rfl rfl hl.1 rfl (lv_room (Nat.le_of_ble_eq_true rfl)) dX8_isLand_33 ⟨Nat.le_of_ble_eq_true rfl, Nat.le_of_ble_eq_true rfl⟩) hP hD hS hA [0] [1] rfl rfl (by decide) (by decide) (fun r_2 u_2 H locs hw_2 hP hD hS => ?_)
        have hP : va_P D kl [(sl, .inl (cI, 1653, .inl g)), (h, .inr (7, [.ref sl, .int 0, .ref zs, .ref ln, .ref ir, .ref tk, .int 0, .int 0, .ref tb, .int 1, .int 0, .int 0, .ref tr, .int 0, .ref fz, .int 0]))] H := hP
        have hD : va_D A [(sl, .inl (cI, 1653, .inl g)), (h, .inr (7, [.ref sl, .int 0, .ref zs, .ref ln, .ref ir, .ref tk, .int 0, .int 0, .ref tb, .int 1, .int 0, .int 0, .ref tr, .int 0, .ref fz, .int 0]))] := hD
        obtain rfl : r_2 = 0 := by first | exact hw_2 | exact hw_2.trans (by decide)
        refine lv_if_eq (tgt := 49) hx hb dX8_isLand_36 (by decide) (fun _ => ?_) (fun c9 => absurd (by decide) c9)
        refine lv_iconst (v := 0) hx hb dX8_isLand_49 (by decide) ?_
        exact wr_z (v := 0) hx hb hr hlocks hS () (by rfl) (hP.sub [1] rfl) (hD.sub [1] (by decide) rfl) dX8_isLand_50 rfl
      · have f_1 : ¬ 57 ≤ ((i : Nat) : Int) := by
          have h8 := zi_nle c_1
          try rw [nI_toInt (n := i) (by omega)] at h8
          exact h8
        refine lv_aload_n hx hb dX8_isLand_13 rfl (lv_at hl 1 rfl) ?_
        refine va_get (D := D) (ci := 7) (v := .ref sl) (C := RX8) (T := TX8) (N := 16) hx hb hts (fun _ h => List.mem_cons_of_mem _ (List.mem_append_right _ h)) hown hK hP 0 rfl rfl 0 (by decide) (hts (.fieldLink RX8 7 "WinterWalkModel" "slot" "[I") (List.mem_of_getElem? (i := 2) rfl)) (fun _ h9 => h9) rfl dX8_isLand_14 ?_
        refine lv_sipush (v := 1596) hx hb dX8_isLand_17 (by decide) ?_
        refine lv_iload_n hx hb dX8_isLand_20 rfl (lv_at hl 0 rfl) ?_
        refine lv_iadd hx hb dX8_isLand_21 ?_
        refine lv_topi (fun x_3 ex_3 => ?_)
        have e_3 : x_3.toInt = 1596 + ((i : Nat) : Int) := by rw [ex_3]; exact zi_add (by decide) (nI_toInt (n := i) (by omega)) (by omega) (by omega)
        refine lv_iconst (v := 0) hx hb dX8_isLand_22 (by decide) ?_
        refine va_iast hx hb hK hP hD hS 1 0 rfl rfl (zi_in (by omega) (by omega)) dX8_isLand_23 (fun H locs hP hD hS => ?_)
        have hP : va_P D kl [(h, .inr (7, [.ref sl, .int 0, .ref zs, .ref ln, .ref ir, .ref tk, .int 0, .int 0, .ref tb, .int 0, .int 0, .int 0, .ref tr, .int 0, .ref fz, .int 0])), (sl, .inl (cI, 1653, .inl (upd g (x_3 : Int32).toNatClampNeg 0)))] H := hP
        have hD : va_D A [(h, .inr (7, [.ref sl, .int 0, .ref zs, .ref ln, .ref ir, .ref tk, .int 0, .int 0, .ref tb, .int 0, .int 0, .int 0, .ref tr, .int 0, .ref fz, .int 0])), (sl, .inl (cI, 1653, .inl (upd g (x_3 : Int32).toNatClampNeg 0)))] := hD
        refine lv_iinc (v := (nI (i + 1))) (lv' := [(1, .int (nI (i + 1))), (0, .ref h)]) hx hb dX8_isLand_24 hl (k := 0) rfl (nI_1 _) (by decide) rfl (fun ls hl => ?_)
        refine lv_goto (tgt := 7) hx hb dX8_isLand_27 (by decide) ?_
        exact ih (i + 1) (upd g (x_3 : Int32).toNatClampNeg 0) _ _ _ (by omega) (by omega) (hP.sub [0, 1] rfl) (hD.sub [0, 1] (by decide) rfl) hS (lv_sub hl [0, 1] rfl)
  have hl : lv_has ls 5 [(1, .int (nI 0)), (0, .ref h)] := by have h9 : (nI 0) = 0 := rfl; rw [h9]; exact hl
  exact hloop (57 + 1) 0 (fun _ => 0) _ _ _ (by omega) (by omega) (hP.sub [0, 1] rfl) (hD.sub [0, 1] (by decide) rfl) hS (lv_sub hl [0, 1] rfl)
set_option maxHeartbeats 4000000 in
set_option maxRecDepth 100000 in
theorem km_row (l : Launch) (D : va_G) (cI cB cQ : ClassId) (sz : Nat) (h : Nat) (sl : Nat) (zs : Nat) (ln : Nat) (ir : Nat) (tk : Nat) (tb : Nat) (tr : Nat) (fz : Nat) (p0 : Int32) (p1 : Int32) (p2 : Int32) : mi l yX8_row wsX8_row ({ frames := 1, cells := 0, slots := 0, locals := 25 }) D cI cB cQ [.ref h, .int p0, .int p1, .int p2] sz [(h, .inr (7, [.ref sl, .int 0, .ref zs, .ref ln, .ref ir, .ref tk, .int 0, .int 0, .ref tb, .int 0, .int 0, .int 0, .ref tr, .int 0, .ref fz, .int 0])), (zs, .inl (cI, 8, .inl (fun _ => (-1)))), (ln, .inl (cI, 8, .inl (fun _ => 0))), (ir, .inl (cI, 320, .inl (fun _ => 0)))] (fun (r : Int32) (_u : Unit) => r = sp_row p0 p1 p2) (fun _ => []) 0 0 := by
  refine wm_i (cc := cX8_row) (maxL := 5) (ret := (some .int)) (by decide) rfl (Nat.le_of_ble_eq_true rfl) ?_
  intro p e s m below meth c A ls hx hb hr hml hown hts hlocks hin hP hK hD hN hA hl hS
  have hown : s.vm.findClass RX8 = some m.cls := hown
  have hl : lv_has ls 5 [(0, .ref h), (1, .int p0), (2, .int p1), (3, .int p2)] := hl
  change W p l e ({ frames := 1, cells := 0, slots := 0, locals := 25 }) s m ([.ref h, .int p0, .int p1, .int p2] : List Value).toArray below meth c s.heap [] 0 0 (MQ below (va_Qi (fun (r : Int32) (_u : Unit) => r = sp_row p0 p1 p2) (fun u t => wb D A ((fun _ => []) u) t) A) ([.ref h, .int p0, .int p1, .int p2] : List Value).toArray s 0 0 A) (F0 m 0 ls [])
  refine lv_iload_n hx hb dX8_row_0 rfl (lv_at hl 1 rfl) ?_
  refine lv_i2l (v := (p0.toInt64)) hx hb dX8_row_1 rfl ?_
  refine lv_lconst (v := 0) hx hb dX8_row_2 (by decide) ?_
  refine lv_ldc2 (v := 7) hx hb hown (hts (.constantLong RX8 40 (7)) (List.mem_of_getElem? (i := 1) rfl)) dX8_row_3 ?_
  have k_1 := (k_in l D cI cB cQ s.heap.size (p0.toInt64) 0 7)
  refine wc_i (WC := []) (WR := [(h, .inr (7, [.ref sl, .int 0, .ref zs, .ref ln, .ref ir, .ref tk, .int 0, .int 0, .ref tb, .int 0, .int 0, .int 0, .ref tr, .int 0, .ref fz, .int 0])), (zs, .inl (cI, 8, .inl (fun _ => (-1)))), (ln, .inl (cI, 8, .inl (fun _ => 0))), (ir, .inl (cI, 320, .inl (fun _ => 0)))]) (va_runS (As := [.long (p0.toInt64), .long 0, .long 7]) (rest := []) ⟨hx, hb, hml, hown, hts⟩ k_1 (va_cwS 3 hts gX8_row_X8_in rfl rfl rfl (by decide +kernel) ⟨Nat.le_of_ble_eq_true rfl, Nat.le_of_ble_eq_true rfl⟩) (wp_S hP hK hD hN [] (by decide) rfl) rfl rfl hl.1 rfl (lv_room (Nat.le_of_ble_eq_true rfl)) dX8_row_6 ⟨Nat.le_of_ble_eq_true rfl, Nat.le_of_ble_eq_true rfl⟩) hP hD hS hA [] [0, 1, 2, 3] rfl rfl (by decide) (by decide) (fun r_1 u_1 H locs hw_1 hP hD hS => ?_)
  have hP : va_P D kl [(h, .inr (7, [.ref sl, .int 0, .ref zs, .ref ln, .ref ir, .ref tk, .int 0, .int 0, .ref tb, .int 0, .int 0, .int 0, .ref tr, .int 0, .ref fz, .int 0])), (zs, .inl (cI, 8, .inl (fun _ => (-1)))), (ln, .inl (cI, 8, .inl (fun _ => 0))), (ir, .inl (cI, 320, .inl (fun _ => 0)))] H := hP
  have hD : va_D A [(h, .inr (7, [.ref sl, .int 0, .ref zs, .ref ln, .ref ir, .ref tk, .int 0, .int 0, .ref tb, .int 0, .int 0, .int 0, .ref tr, .int 0, .ref fz, .int 0])), (zs, .inl (cI, 8, .inl (fun _ => (-1)))), (ln, .inl (cI, 8, .inl (fun _ => 0))), (ir, .inl (cI, 320, .inl (fun _ => 0)))] := hD
  rcases hw_1 with ⟨e_1, f_1⟩ | ⟨e_1, f_1⟩
  · subst e_1
    have f_1 : 0 ≤ p0.toInt ∧ p0.toInt ≤ 7 := by
      have h8 := f_1
      try rw [zl_of] at h8
      exact h8
    refine lv_if_eq (tgt := 30) hx hb dX8_row_9 (by decide) (fun c9 => absurd c9 (by decide)) (fun _ => ?_)
    refine lv_iload_n hx hb dX8_row_12 rfl (lv_at hl 2 rfl) ?_
    refine lv_i2l (v := (p1.toInt64)) hx hb dX8_row_13 rfl ?_
    refine lv_lconst (v := 0) hx hb dX8_row_14 (by decide) ?_
    refine lv_ldc2 (v := 2) hx hb hown (hts (.constantLong RX8 46 (2)) (List.mem_of_getElem? (i := 2) rfl)) dX8_row_15 ?_
    have k_2 := (k_in l D cI cB cQ H.size (p1.toInt64) 0 2)
    refine wc_i (WC := []) (WR := [(h, .inr (7, [.ref sl, .int 0, .ref zs, .ref ln, .ref ir, .ref tk, .int 0, .int 0, .ref tb, .int 0, .int 0, .int 0, .ref tr, .int 0, .ref fz, .int 0])), (zs, .inl (cI, 8, .inl (fun _ => (-1)))), (ln, .inl (cI, 8, .inl (fun _ => 0))), (ir, .inl (cI, 320, .inl (fun _ => 0)))]) (va_runS (As := [.long (p1.toInt64), .long 0, .long 2]) (rest := []) ⟨hx, hb, hml, hown, hts⟩ k_2 (va_cwS 3 hts gX8_row_X8_in rfl rfl rfl (by decide +kernel) ⟨Nat.le_of_ble_eq_true rfl, Nat.le_of_ble_eq_true rfl⟩) (wp_S hP hK hD hN [] (by decide) rfl) rfl rfl hl.1 rfl (lv_room (Nat.le_of_ble_eq_true rfl)) dX8_row_18 ⟨Nat.le_of_ble_eq_true rfl, Nat.le_of_ble_eq_true rfl⟩) hP hD hS hA [] [0, 1, 2, 3] rfl rfl (by decide) (by decide) (fun r_2 u_2 H locs hw_2 hP hD hS => ?_)
    have hP : va_P D kl [(h, .inr (7, [.ref sl, .int 0, .ref zs, .ref ln, .ref ir, .ref tk, .int 0, .int 0, .ref tb, .int 0, .int 0, .int 0, .ref tr, .int 0, .ref fz, .int 0])), (zs, .inl (cI, 8, .inl (fun _ => (-1)))), (ln, .inl (cI, 8, .inl (fun _ => 0))), (ir, .inl (cI, 320, .inl (fun _ => 0)))] H := hP
    have hD : va_D A [(h, .inr (7, [.ref sl, .int 0, .ref zs, .ref ln, .ref ir, .ref tk, .int 0, .int 0, .ref tb, .int 0, .int 0, .int 0, .ref tr, .int 0, .ref fz, .int 0])), (zs, .inl (cI, 8, .inl (fun _ => (-1)))), (ln, .inl (cI, 8, .inl (fun _ => 0))), (ir, .inl (cI, 320, .inl (fun _ => 0)))] := hD
    rcases hw_2 with ⟨e_2, f_2⟩ | ⟨e_2, f_2⟩
    · subst e_2
      have f_2 : 0 ≤ p1.toInt ∧ p1.toInt ≤ 2 := by
        have h8 := f_2
        try rw [zl_of] at h8
        exact h8
      refine lv_if_eq (tgt := 30) hx hb dX8_row_21 (by decide) (fun c9 => absurd c9 (by decide)) (fun _ => ?_)
      refine lv_iload_n hx hb dX8_row_24 rfl (lv_at hl 3 rfl) ?_
      refine lv_bipush (v := 40) hx hb dX8_row_25 (by decide) ?_
      refine lv_icmp_le (tgt := 33) hx hb dX8_row_27 (by decide) (fun c_3 => ?_) (fun c_3 => ?_)
      · have f_3 : p2.toInt ≤ 40 := zi_le c_3
        refine lv_iload_n hx hb dX8_row_33 rfl (lv_at hl 3 rfl) ?_
        refine lv_if_ge (tgt := 43) hx hb dX8_row_34 (by decide) (fun c_4 => ?_) (fun c_4 => ?_)
        · have f_4 : 0 ≤ p2.toInt := zi_le c_4
          refine lv_aload_n hx hb dX8_row_43 rfl (lv_at hl 0 rfl) ?_
          refine va_get (D := D) (ci := 7) (v := .ref zs) (C := RX8) (T := TX8) (N := 16) hx hb hts (fun _ h => List.mem_cons_of_mem _ (List.mem_append_right _ h)) hown hK hP 0 rfl rfl 2 (by decide) (hts (.fieldLink RX8 13 "WinterWalkModel" "size" "[I") (List.mem_of_getElem? (i := 4) rfl)) (fun _ h9 => h9) rfl dX8_row_44 ?_
          refine lv_iload_n hx hb dX8_row_47 rfl (lv_at hl 1 rfl) ?_
          refine lv_iload_n hx hb dX8_row_48 rfl (lv_at hl 3 rfl) ?_
          refine va_iast hx hb hK hP hD hS 1 0 rfl rfl (zi_in (by omega) (by omega)) dX8_row_49 (fun H locs hP hD hS => ?_)
          have hP : va_P D kl [(h, .inr (7, [.ref sl, .int 0, .ref zs, .ref ln, .ref ir, .ref tk, .int 0, .int 0, .ref tb, .int 0, .int 0, .int 0, .ref tr, .int 0, .ref fz, .int 0])), (zs, .inl (cI, 8, .inl (upd (fun _ => (-1)) (p0 : Int32).toNatClampNeg p2))), (ln, .inl (cI, 8, .inl (fun _ => 0))), (ir, .inl (cI, 320, .inl (fun _ => 0)))] H := hP
          have hD : va_D A [(h, .inr (7, [.ref sl, .int 0, .ref zs, .ref ln, .ref ir, .ref tk, .int 0, .int 0, .ref tb, .int 0, .int 0, .int 0, .ref tr, .int 0, .ref fz, .int 0])), (zs, .inl (cI, 8, .inl (upd (fun _ => (-1)) (p0 : Int32).toNatClampNeg p2))), (ln, .inl (cI, 8, .inl (fun _ => 0))), (ir, .inl (cI, 320, .inl (fun _ => 0)))] := hD
          refine lv_aload_n hx hb dX8_row_50 rfl (lv_at hl 0 rfl) ?_
          refine va_get (D := D) (ci := 7) (v := .ref ln) (C := RX8) (T := TX8) (N := 16) hx hb hts (fun _ h => List.mem_cons_of_mem _ (List.mem_append_right _ h)) hown hK hP 0 rfl rfl 3 (by decide) (hts (.fieldLink RX8 16 "WinterWalkModel" "lane" "[I") (List.mem_of_getElem? (i := 5) rfl)) (fun _ h9 => h9) rfl dX8_row_51 ?_
          refine lv_iload_n hx hb dX8_row_54 rfl (lv_at hl 1 rfl) ?_
          refine lv_iload_n hx hb dX8_row_55 rfl (lv_at hl 2 rfl) ?_
          refine va_iast hx hb hK hP hD hS 2 0 rfl rfl (zi_in (by omega) (by omega)) dX8_row_56 (fun H locs hP hD hS => ?_)
          have hP : va_P D kl [(h, .inr (7, [.ref sl, .int 0, .ref zs, .ref ln, .ref ir, .ref tk, .int 0, .int 0, .ref tb, .int 0, .int 0, .int 0, .ref tr, .int 0, .ref fz, .int 0])), (zs, .inl (cI, 8, .inl (upd (fun _ => (-1)) (p0 : Int32).toNatClampNeg p2))), (ln, .inl (cI, 8, .inl (upd (fun _ => 0) (p0 : Int32).toNatClampNeg p1))), (ir, .inl (cI, 320, .inl (fun _ => 0)))] H := hP
          have hD : va_D A [(h, .inr (7, [.ref sl, .int 0, .ref zs, .ref ln, .ref ir, .ref tk, .int 0, .int 0, .ref tb, .int 0, .int 0, .int 0, .ref tr, .int 0, .ref fz, .int 0])), (zs, .inl (cI, 8, .inl (upd (fun _ => (-1)) (p0 : Int32).toNatClampNeg p2))), (ln, .inl (cI, 8, .inl (upd (fun _ => 0) (p0 : Int32).toNatClampNeg p1))), (ir, .inl (cI, 320, .inl (fun _ => 0)))] := hD
          refine lv_iconst (v := 0) hx hb dX8_row_57 (by decide) ?_
          refine lv_istore (lv' := [(4, .int 0), (0, .ref h), (1, .int p0), (2, .int p1), (3, .int p2)]) hx hb dX8_row_58 hl (by decide) rfl (fun ls hl => ?_)
          obtain ⟨kn, hkn, rfl⟩ : ∃ k : Nat, k ≤ 40 ∧ p2 = nI k := zi_nat (by omega) (by omega)
          have hloop : ∀ (n i : Nat) (g : Nat → Int32) (H : Heap) (locs : List Loc) (ls : Array Slot), i ≤ kn → kn + 1 ≤ i + n → va_P D kl [(h, .inr (7, [.ref sl, .int 0, .ref zs, .ref ln, .ref ir, .ref tk, .int 0, .int 0, .ref tb, .int 0, .int 0, .int 0, .ref tr, .int 0, .ref fz, .int 0])), (zs, .inl (cI, 8, .inl (upd (fun _ => (-1)) (p0 : Int32).toNatClampNeg (nI kn)))), (ln, .inl (cI, 8, .inl (upd (fun _ => 0) (p0 : Int32).toNatClampNeg p1))), (ir, .inl (cI, 320, .inl g))] H → va_D A [(h, .inr (7, [.ref sl, .int 0, .ref zs, .ref ln, .ref ir, .ref tk, .int 0, .int 0, .ref tb, .int 0, .int 0, .int 0, .ref tr, .int 0, .ref fz, .int 0])), (zs, .inl (cI, 8, .inl (upd (fun _ => (-1)) (p0 : Int32).toNatClampNeg (nI kn)))), (ln, .inl (cI, 8, .inl (upd (fun _ => 0) (p0 : Int32).toNatClampNeg p1))), (ir, .inl (cI, 320, .inl g))] → va_S A s.heap H locs → lv_has ls 5 [(4, .int (nI i)), (0, .ref h), (1, .int p0), (2, .int p1), (3, .int (nI kn))] → W p l e ({ frames := 1, cells := 0, slots := 0, locals := 25 }) s m ([.ref h, .int p0, .int p1, .int (nI kn)] : List Value).toArray below meth c H locs 0 0 (MQ below (va_Qi (fun (r : Int32) (_u : Unit) => r = sp_row p0 p1 (nI kn)) (fun u t => wb D A ((fun _ => []) u) t) A) ([.ref h, .int p0, .int p1, .int (nI kn)] : List Value).toArray s 0 0 A) (F0 m 60 ls []) := by
            intro n
            induction n with
            | zero =>
              intro i g H locs ls hi0 hn0
              exact absurd hn0 (by omega)
            | succ n ih =>
              intro i g H locs ls hi0 hn0 hP hD hS hl
              refine lv_iload hx hb dX8_row_60 (lv_at hl 0 rfl) ?_
              refine lv_iload_n hx hb dX8_row_62 rfl (lv_at hl 4 rfl) ?_
              refine lv_icmp_ge (tgt := 85) hx hb dX8_row_63 (by decide) (fun c_5 => ?_) (fun c_5 => ?_)
              · have f_5 : ((kn : Nat) : Int) ≤ ((i : Nat) : Int) := by
                  have h8 := zi_le c_5
                  try rw [nI_toInt (n := i) (by omega)] at h8
                  try rw [nI_toInt (n := kn) (by omega)] at h8
                  exact h8
                refine lv_aload_n hx hb dX8_row_85 rfl (lv_at hl 1 rfl) ?_
                refine lv_iload_n hx hb dX8_row_86 rfl (lv_at hl 4 rfl) ?_
                have k_6 := (k_told l D cI cB cQ H.size h sl zs ln ir tk tb tr fz (nI kn))
                refine wc_i (WC := [(h, .inr (7, [.ref sl, .int 0, .ref zs, .ref ln, .ref ir, .ref tk, .int 0, .int 0, .ref tb, .int 0, .int 0, .int 0, .ref tr, .int 0, .ref fz, .int 0]))]) (WR := [(zs, .inl (cI, 8, .inl (upd (fun _ => (-1)) (p0 : Int32).toNatClampNeg (nI kn)))), (ln, .inl (cI, 8, .inl (upd (fun _ => 0) (p0 : Int32).toNatClampNeg p1))), (ir, .inl (cI, 320, .inl g))]) (va_runV (As := [.int (nI kn)]) (rest := []) ⟨hx, hb, hml, hown, hts⟩ k_6 (cwV 1 hts gX8_row_X8_told rfl rfl rfl (by decide +kernel) ⟨Nat.le_of_ble_eq_true rfl, Nat.le_of_ble_eq_true rfl⟩) (wp_V hP hK hD hN [0] (by decide) rfl (ci := 7) rfl rfl) rfl rfl hl.1 rfl (lv_room (Nat.le_of_ble_eq_true rfl)) dX8_row_87 ⟨Nat.le_of_ble_eq_true rfl, Nat.le_of_ble_eq_true rfl⟩) hP hD hS hA [0] [1, 2, 3] rfl rfl (by decide) (by decide) (fun r_6 u_6 H locs hw_6 hP hD hS => ?_)
                have hP : va_P D kl [(zs, .inl (cI, 8, .inl (upd (fun _ => (-1)) (p0 : Int32).toNatClampNeg (nI kn)))), (ln, .inl (cI, 8, .inl (upd (fun _ => 0) (p0 : Int32).toNatClampNeg p1))), (ir, .inl (cI, 320, .inl g))] H := hP
                have hD : va_D A [(zs, .inl (cI, 8, .inl (upd (fun _ => (-1)) (p0 : Int32).toNatClampNeg (nI kn)))), (ln, .inl (cI, 8, .inl (upd (fun _ => 0) (p0 : Int32).toNatClampNeg p1))), (ir, .inl (cI, 320, .inl g))] := hD
                rw [hw_6]
                exact wr_i (v := (nI kn)) hx hb hr hlocks hS () (by unfold sp_row; (repeat' split) <;> first | rfl | (exfalso; omega)) (hP.sub [] rfl) (hD.sub [] (by decide) rfl) dX8_row_90
              · have f_5 : ¬ ((kn : Nat) : Int) ≤ ((i : Nat) : Int) := by
                  have h8 := zi_nle c_5
                  try rw [nI_toInt (n := i) (by omega)] at h8
                  try rw [nI_toInt (n := kn) (by omega)] at h8
                  exact h8
                refine lv_aload_n hx hb dX8_row_66 rfl (lv_at hl 1 rfl) ?_
                refine va_get (D := D) (ci := 7) (v := .ref ir) (C := RX8) (T := TX8) (N := 16) hx hb hts (fun _ h => List.mem_cons_of_mem _ (List.mem_append_right _ h)) hown hK hP 0 rfl rfl 4 (by decide) (hts (.fieldLink RX8 19 "WinterWalkModel" "items" "[I") (List.mem_of_getElem? (i := 6) rfl)) (fun _ h9 => h9) rfl dX8_row_67 ?_
                refine lv_bipush (v := 40) hx hb dX8_row_70 (by decide) ?_
                refine lv_iload_n hx hb dX8_row_72 rfl (lv_at hl 2 rfl) ?_
                refine lv_imul hx hb dX8_row_73 ?_
                refine lv_topi (fun x_7 ex_7 => ?_)
                have e_7 : x_7.toInt = 40 * p0.toInt := by rw [ex_7]; exact zi_mul (by decide) (rfl) (by omega) (by omega)
                refine lv_iload hx hb dX8_row_74 (lv_at hl 0 rfl) ?_
                refine lv_iadd hx hb dX8_row_76 ?_
                refine lv_topi (fun x_8 ex_8 => ?_)
                have e_8 : x_8.toInt = x_7.toInt + ((i : Nat) : Int) := by rw [ex_8]; exact zi_add (rfl) (nI_toInt (n := i) (by omega)) (by omega) (by omega)
                refine lv_iconst (v := 0) hx hb dX8_row_77 (by decide) ?_
                refine va_iast hx hb hK hP hD hS 3 0 rfl rfl (zi_in (by omega) (by omega)) dX8_row_78 (fun H locs hP hD hS => ?_)
                have hP : va_P D kl [(h, .inr (7, [.ref sl, .int 0, .ref zs, .ref ln, .ref ir, .ref tk, .int 0, .int 0, .ref tb, .int 0, .int 0, .int 0, .ref tr, .int 0, .ref fz, .int 0])), (zs, .inl (cI, 8, .inl (upd (fun _ => (-1)) (p0 : Int32).toNatClampNeg (nI kn)))), (ln, .inl (cI, 8, .inl (upd (fun _ => 0) (p0 : Int32).toNatClampNeg p1))), (ir, .inl (cI, 320, .inl (upd g (x_8 : Int32).toNatClampNeg 0)))] H := hP
                have hD : va_D A [(h, .inr (7, [.ref sl, .int 0, .ref zs, .ref ln, .ref ir, .ref tk, .int 0, .int 0, .ref tb, .int 0, .int 0, .int 0, .ref tr, .int 0, .ref fz, .int 0])), (zs, .inl (cI, 8, .inl (upd (fun _ => (-1)) (p0 : Int32).toNatClampNeg (nI kn)))), (ln, .inl (cI, 8, .inl (upd (fun _ => 0) (p0 : Int32).toNatClampNeg p1))), (ir, .inl (cI, 320, .inl (upd g (x_8 : Int32).toNatClampNeg 0)))] := hD
                refine lv_iinc (v := (nI (i + 1))) (lv' := [(4, .int (nI (i + 1))), (0, .ref h), (1, .int p0), (2, .int p1), (3, .int (nI kn))]) hx hb dX8_row_79 hl (k := 0) rfl (nI_1 _) (by decide) rfl (fun ls hl => ?_)
                refine lv_goto (tgt := 60) hx hb dX8_row_82 (by decide) ?_
                exact ih (i + 1) (upd g (x_8 : Int32).toNatClampNeg 0) _ _ _ (by omega) (by omega) (hP.sub [0, 1, 2, 3] rfl) (hD.sub [0, 1, 2, 3] (by decide) rfl) hS (lv_sub hl [0, 1, 2, 3, 4] rfl)
          have hl : lv_has ls 5 [(4, .int (nI 0)), (0, .ref h), (1, .int p0), (2, .int p1), (3, .int (nI kn))] := by have h9 : (nI 0) = 0 := rfl; rw [h9]; exact hl
          exact hloop (kn + 1) 0 (fun _ => 0) _ _ _ (by omega) (by omega) (hP.sub [0, 1, 2, 3] rfl) (hD.sub [0, 1, 2, 3] (by decide) rfl) hS (lv_sub hl [0, 1, 2, 3, 4] rfl)
        · have f_4 : ¬ 0 ≤ p2.toInt := zi_nle c_4
          refine lv_aload_n hx hb dX8_row_37 rfl (lv_at hl 0 rfl) ?_
          refine lv_iconst (v := 4) hx hb dX8_row_38 (by decide) ?_
          have k_9 := (k_finds l D cI cB cQ H.size h sl zs ln ir tk tb tr fz 4)
          refine wc_i (WC := [(h, .inr (7, [.ref sl, .int 0, .ref zs, .ref ln, .ref ir, .ref tk, .int 0, .int 0, .ref tb, .int 0, .int 0, .int 0, .ref tr, .int 0, .ref fz, .int 0]))]) (WR := [(zs, .inl (cI, 8, .inl (fun _ => (-1)))), (ln, .inl (cI, 8, .inl (fun _ => 0))), (ir, .inl (cI, 320, .inl (fun _ => 0)))]) (va_runV (As := [.int 4]) (rest := []) ⟨hx, hb, hml, hown, hts⟩ k_9 (cwV 1 hts gX8_row_X8_finds rfl rfl rfl (by decide +kernel) ⟨Nat.le_of_ble_eq_true rfl, Nat.le_of_ble_eq_true rfl⟩) (wp_V hP hK hD hN [0] (by decide) rfl (ci := 7) rfl rfl) rfl rfl hl.1 rfl (lv_room (Nat.le_of_ble_eq_true rfl)) dX8_row_39 ⟨Nat.le_of_ble_eq_true rfl, Nat.le_of_ble_eq_true rfl⟩) hP hD hS hA [0] [1, 2, 3] rfl rfl (by decide) (by decide) (fun r_9 u_9 H locs hw_9 hP hD hS => ?_)
          have hP : va_P D kl [(zs, .inl (cI, 8, .inl (fun _ => (-1)))), (ln, .inl (cI, 8, .inl (fun _ => 0))), (ir, .inl (cI, 320, .inl (fun _ => 0)))] H := hP
          have hD : va_D A [(zs, .inl (cI, 8, .inl (fun _ => (-1)))), (ln, .inl (cI, 8, .inl (fun _ => 0))), (ir, .inl (cI, 320, .inl (fun _ => 0)))] := hD
          obtain rfl : r_9 = (-1000014) := by first | exact hw_9 | exact hw_9.trans (by decide)
          exact wr_i (v := (-1000014)) hx hb hr hlocks hS () (by unfold sp_row; (repeat' split) <;> first | rfl | (exfalso; omega)) (hP.sub [] rfl) (hD.sub [] (by decide) rfl) dX8_row_42
      · have f_3 : ¬ p2.toInt ≤ 40 := zi_nle c_3
        refine lv_ldc (v := (-1000001)) hx hb hown (hts (.constant RX8 48 (-1000001)) (List.mem_of_getElem? (i := 3) rfl)) dX8_row_30 ?_
        exact wr_i (v := (-1000001)) hx hb hr hlocks hS () (by unfold sp_row; (repeat' split) <;> first | rfl | (exfalso; omega)) (hP.sub [] rfl) (hD.sub [] (by decide) rfl) dX8_row_32
    · subst e_2
      have f_2 : ¬ (0 ≤ p1.toInt ∧ p1.toInt ≤ 2) := by
        have h8 := f_2
        try rw [zl_of] at h8
        exact h8
      refine lv_if_eq (tgt := 30) hx hb dX8_row_21 (by decide) (fun _ => ?_) (fun c9 => absurd (by decide) c9)
      refine lv_ldc (v := (-1000001)) hx hb hown (hts (.constant RX8 48 (-1000001)) (List.mem_of_getElem? (i := 3) rfl)) dX8_row_30 ?_
      exact wr_i (v := (-1000001)) hx hb hr hlocks hS () (by unfold sp_row; (repeat' split) <;> first | rfl | (exfalso; omega)) (hP.sub [] rfl) (hD.sub [] (by decide) rfl) dX8_row_32
  · subst e_1
    have f_1 : ¬ (0 ≤ p0.toInt ∧ p0.toInt ≤ 7) := by
      have h8 := f_1
      try rw [zl_of] at h8
      exact h8
    refine lv_if_eq (tgt := 30) hx hb dX8_row_9 (by decide) (fun _ => ?_) (fun c9 => absurd (by decide) c9)
    refine lv_ldc (v := (-1000001)) hx hb hown (hts (.constant RX8 48 (-1000001)) (List.mem_of_getElem? (i := 3) rfl)) dX8_row_30 ?_
    exact wr_i (v := (-1000001)) hx hb hr hlocks hS () (by unfold sp_row; (repeat' split) <;> first | rfl | (exfalso; omega)) (hP.sub [] rfl) (hD.sub [] (by decide) rfl) dX8_row_32
set_option maxHeartbeats 4000000 in
set_option maxRecDepth 100000 in
theorem km_set (l : Launch) (D : va_G) (cI cB cQ : ClassId) (sz : Nat) (h : Nat) (sl : Nat) (zs : Nat) (ln : Nat) (ir : Nat) (tk : Nat) (tb : Nat) (tr : Nat) (fz : Nat) (p0 : Int32) (p1 : Int32) (p2 : Int32) : mi l yX8_set wsX8_set ({ frames := 1, cells := 0, slots := 0, locals := 25 }) D cI cB cQ [.ref h, .int p0, .int p1, .int p2] sz [(h, .inr (7, [.ref sl, .int 0, .ref zs, .ref ln, .ref ir, .ref tk, .int 0, .int 0, .ref tb, .int 0, .int 0, .int 0, .ref tr, .int 0, .ref fz, .int 0])), (zs, .inl (cI, 8, .inl (fun _ => (-1))))] (fun (r : Int32) (_u : Unit) => r = sp_set p0 p1 p2) (fun _ => []) 0 0 := by
  refine wm_i (cc := cX8_set) (maxL := 4) (ret := (some .int)) (by decide) rfl (Nat.le_of_ble_eq_true rfl) ?_
  intro p e s m below meth c A ls hx hb hr hml hown hts hlocks hin hP hK hD hN hA hl hS
  have hown : s.vm.findClass RX8 = some m.cls := hown
  have hl : lv_has ls 4 [(0, .ref h), (1, .int p0), (2, .int p1), (3, .int p2)] := hl
  change W p l e ({ frames := 1, cells := 0, slots := 0, locals := 25 }) s m ([.ref h, .int p0, .int p1, .int p2] : List Value).toArray below meth c s.heap [] 0 0 (MQ below (va_Qi (fun (r : Int32) (_u : Unit) => r = sp_set p0 p1 p2) (fun u t => wb D A ((fun _ => []) u) t) A) ([.ref h, .int p0, .int p1, .int p2] : List Value).toArray s 0 0 A) (F0 m 0 ls [])
  refine lv_iload_n hx hb dX8_set_0 rfl (lv_at hl 1 rfl) ?_
  refine lv_i2l (v := (p0.toInt64)) hx hb dX8_set_1 rfl ?_
  refine lv_lconst (v := 0) hx hb dX8_set_2 (by decide) ?_
  refine lv_ldc2 (v := 7) hx hb hown (hts (.constantLong RX8 40 (7)) (List.mem_of_getElem? (i := 1) rfl)) dX8_set_3 ?_
  have k_1 := (k_in l D cI cB cQ s.heap.size (p0.toInt64) 0 7)
  refine wc_i (WC := []) (WR := [(h, .inr (7, [.ref sl, .int 0, .ref zs, .ref ln, .ref ir, .ref tk, .int 0, .int 0, .ref tb, .int 0, .int 0, .int 0, .ref tr, .int 0, .ref fz, .int 0])), (zs, .inl (cI, 8, .inl (fun _ => (-1))))]) (va_runS (As := [.long (p0.toInt64), .long 0, .long 7]) (rest := []) ⟨hx, hb, hml, hown, hts⟩ k_1 (va_cwS 3 hts gX8_set_X8_in rfl rfl rfl (by decide +kernel) ⟨Nat.le_of_ble_eq_true rfl, Nat.le_of_ble_eq_true rfl⟩) (wp_S hP hK hD hN [] (by decide) rfl) rfl rfl hl.1 rfl (lv_room (Nat.le_of_ble_eq_true rfl)) dX8_set_6 ⟨Nat.le_of_ble_eq_true rfl, Nat.le_of_ble_eq_true rfl⟩) hP hD hS hA [] [0, 1] rfl rfl (by decide) (by decide) (fun r_1 u_1 H locs hw_1 hP hD hS => ?_)
  have hP : va_P D kl [(h, .inr (7, [.ref sl, .int 0, .ref zs, .ref ln, .ref ir, .ref tk, .int 0, .int 0, .ref tb, .int 0, .int 0, .int 0, .ref tr, .int 0, .ref fz, .int 0])), (zs, .inl (cI, 8, .inl (fun _ => (-1))))] H := hP
  have hD : va_D A [(h, .inr (7, [.ref sl, .int 0, .ref zs, .ref ln, .ref ir, .ref tk, .int 0, .int 0, .ref tb, .int 0, .int 0, .int 0, .ref tr, .int 0, .ref fz, .int 0])), (zs, .inl (cI, 8, .inl (fun _ => (-1))))] := hD
  rcases hw_1 with ⟨e_1, f_1⟩ | ⟨e_1, f_1⟩
  · subst e_1
    have f_1 : 0 ≤ p0.toInt ∧ p0.toInt ≤ 7 := by
      have h8 := f_1
      try rw [zl_of] at h8
      exact h8
    refine lv_if_ne (tgt := 15) hx hb dX8_set_9 (by decide) (fun _ => ?_) (fun c9 => absurd c9 (by decide))
    refine lv_aload_n hx hb dX8_set_15 rfl (lv_at hl 0 rfl) ?_
    refine va_get (D := D) (ci := 7) (v := .ref zs) (C := RX8) (T := TX8) (N := 16) hx hb hts (fun _ h => List.mem_cons_of_mem _ (List.mem_append_right _ h)) hown hK hP 0 rfl rfl 2 (by decide) (hts (.fieldLink RX8 13 "WinterWalkModel" "size" "[I") (List.mem_of_getElem? (i := 3) rfl)) (fun _ h9 => h9) rfl dX8_set_16 ?_
    refine lv_iload_n hx hb dX8_set_19 rfl (lv_at hl 1 rfl) ?_
    refine va_iald hx hb hK hP 1 0 rfl rfl (zi_in (by omega) (by omega)) dX8_set_20 ?_
    refine lv_topi (fun x_2 ex_2 => ?_)
    obtain rfl : x_2 = (-1) := ex_2
    refine lv_if_ge (tgt := 30) hx hb dX8_set_21 (by decide) (fun c9 => absurd c9 (by decide)) (fun _ => ?_)
    refine lv_aload_n hx hb dX8_set_24 rfl (lv_at hl 0 rfl) ?_
    refine lv_iconst (v := 1) hx hb dX8_set_25 (by decide) ?_
    have k_3 := (k_finds l D cI cB cQ H.size h sl zs ln ir tk tb tr fz 1)
    refine wc_i (WC := [(h, .inr (7, [.ref sl, .int 0, .ref zs, .ref ln, .ref ir, .ref tk, .int 0, .int 0, .ref tb, .int 0, .int 0, .int 0, .ref tr, .int 0, .ref fz, .int 0]))]) (WR := [(zs, .inl (cI, 8, .inl (fun _ => (-1))))]) (va_runV (As := [.int 1]) (rest := []) ⟨hx, hb, hml, hown, hts⟩ k_3 (cwV 1 hts gX8_set_X8_finds rfl rfl rfl (by decide +kernel) ⟨Nat.le_of_ble_eq_true rfl, Nat.le_of_ble_eq_true rfl⟩) (wp_V hP hK hD hN [0] (by decide) rfl (ci := 7) rfl rfl) rfl rfl hl.1 rfl (lv_room (Nat.le_of_ble_eq_true rfl)) dX8_set_26 ⟨Nat.le_of_ble_eq_true rfl, Nat.le_of_ble_eq_true rfl⟩) hP hD hS hA [0] [1] rfl rfl (by decide) (by decide) (fun r_3 u_3 H locs hw_3 hP hD hS => ?_)
    have hP : va_P D kl [(zs, .inl (cI, 8, .inl (fun _ => (-1))))] H := hP
    have hD : va_D A [(zs, .inl (cI, 8, .inl (fun _ => (-1))))] := hD
    obtain rfl : r_3 = (-1000011) := by first | exact hw_3 | exact hw_3.trans (by decide)
    exact wr_i (v := (-1000011)) hx hb hr hlocks hS () (by unfold sp_set; (repeat' split) <;> first | rfl | (exfalso; omega)) (hP.sub [] rfl) (hD.sub [] (by decide) rfl) dX8_set_29
  · subst e_1
    have f_1 : ¬ (0 ≤ p0.toInt ∧ p0.toInt ≤ 7) := by
      have h8 := f_1
      try rw [zl_of] at h8
      exact h8
    refine lv_if_ne (tgt := 15) hx hb dX8_set_9 (by decide) (fun c9 => absurd (by decide) c9) (fun _ => ?_)
    refine lv_ldc (v := (-1000001)) hx hb hown (hts (.constant RX8 48 (-1000001)) (List.mem_of_getElem? (i := 2) rfl)) dX8_set_12 ?_
    exact wr_i (v := (-1000001)) hx hb hr hlocks hS () (by unfold sp_set; (repeat' split) <;> first | rfl | (exfalso; omega)) (hP.sub [] rfl) (hD.sub [] (by decide) rfl) dX8_set_14
set_option maxHeartbeats 4000000 in
set_option maxRecDepth 100000 in
theorem km_copy (l : Launch) (D : va_G) (cI cB cQ : ClassId) (sz : Nat) (h : Nat) (sl : Nat) (zs : Nat) (ln : Nat) (ir : Nat) (tk : Nat) (tb : Nat) (tr : Nat) (fz : Nat) (p0 : Int32) (p1 : Int32) (p2 : Int32) (p3 : Int32) (p4 : Int32) : mi l yX8_copy wsX8_copy ({ frames := 1, cells := 0, slots := 0, locals := 25 }) D cI cB cQ [.ref h, .int p0, .int p1, .int p2, .int p3, .int p4] sz [(h, .inr (7, [.ref sl, .int 0, .ref zs, .ref ln, .ref ir, .ref tk, .int 0, .int 0, .ref tb, .int 0, .int 0, .int 0, .ref tr, .int 0, .ref fz, .int 0])), (zs, .inl (cI, 8, .inl (fun _ => (-1))))] (fun (r : Int32) (_u : Unit) => r = sp_copy p0 p1 p2 p3 p4) (fun _ => []) 0 0 := by
  refine wm_i (cc := cX8_copy) (maxL := 7) (ret := (some .int)) (by decide) rfl (Nat.le_of_ble_eq_true rfl) ?_
  intro p e s m below meth c A ls hx hb hr hml hown hts hlocks hin hP hK hD hN hA hl hS
  have hown : s.vm.findClass RX8 = some m.cls := hown
  have hl : lv_has ls 7 [(0, .ref h), (1, .int p0), (2, .int p1), (3, .int p2), (4, .int p3), (5, .int p4)] := hl
  change W p l e ({ frames := 1, cells := 0, slots := 0, locals := 25 }) s m ([.ref h, .int p0, .int p1, .int p2, .int p3, .int p4] : List Value).toArray below meth c s.heap [] 0 0 (MQ below (va_Qi (fun (r : Int32) (_u : Unit) => r = sp_copy p0 p1 p2 p3 p4) (fun u t => wb D A ((fun _ => []) u) t) A) ([.ref h, .int p0, .int p1, .int p2, .int p3, .int p4] : List Value).toArray s 0 0 A) (F0 m 0 ls [])
  refine lv_iload_n hx hb dX8_copy_0 rfl (lv_at hl 1 rfl) ?_
  refine lv_i2l (v := (p0.toInt64)) hx hb dX8_copy_1 rfl ?_
  refine lv_lconst (v := 0) hx hb dX8_copy_2 (by decide) ?_
  refine lv_ldc2 (v := 7) hx hb hown (hts (.constantLong RX8 40 (7)) (List.mem_of_getElem? (i := 1) rfl)) dX8_copy_3 ?_
  have k_1 := (k_in l D cI cB cQ s.heap.size (p0.toInt64) 0 7)
  refine wc_i (WC := []) (WR := [(h, .inr (7, [.ref sl, .int 0, .ref zs, .ref ln, .ref ir, .ref tk, .int 0, .int 0, .ref tb, .int 0, .int 0, .int 0, .ref tr, .int 0, .ref fz, .int 0])), (zs, .inl (cI, 8, .inl (fun _ => (-1))))]) (va_runS (As := [.long (p0.toInt64), .long 0, .long 7]) (rest := []) ⟨hx, hb, hml, hown, hts⟩ k_1 (va_cwS 3 hts gX8_copy_X8_in rfl rfl rfl (by decide +kernel) ⟨Nat.le_of_ble_eq_true rfl, Nat.le_of_ble_eq_true rfl⟩) (wp_S hP hK hD hN [] (by decide) rfl) rfl rfl hl.1 rfl (lv_room (Nat.le_of_ble_eq_true rfl)) dX8_copy_6 ⟨Nat.le_of_ble_eq_true rfl, Nat.le_of_ble_eq_true rfl⟩) hP hD hS hA [] [0, 1] rfl rfl (by decide) (by decide) (fun r_1 u_1 H locs hw_1 hP hD hS => ?_)
  have hP : va_P D kl [(h, .inr (7, [.ref sl, .int 0, .ref zs, .ref ln, .ref ir, .ref tk, .int 0, .int 0, .ref tb, .int 0, .int 0, .int 0, .ref tr, .int 0, .ref fz, .int 0])), (zs, .inl (cI, 8, .inl (fun _ => (-1))))] H := hP
  have hD : va_D A [(h, .inr (7, [.ref sl, .int 0, .ref zs, .ref ln, .ref ir, .ref tk, .int 0, .int 0, .ref tb, .int 0, .int 0, .int 0, .ref tr, .int 0, .ref fz, .int 0])), (zs, .inl (cI, 8, .inl (fun _ => (-1))))] := hD
  rcases hw_1 with ⟨e_1, f_1⟩ | ⟨e_1, f_1⟩
  · subst e_1
    have f_1 : 0 ≤ p0.toInt ∧ p0.toInt ≤ 7 := by
      have h8 := f_1
      try rw [zl_of] at h8
      exact h8
    refine lv_if_eq (tgt := 24) hx hb dX8_copy_9 (by decide) (fun c9 => absurd c9 (by decide)) (fun _ => ?_)
    refine lv_iload_n hx hb dX8_copy_12 rfl (lv_at hl 3 rfl) ?_
    refine lv_i2l (v := (p2.toInt64)) hx hb dX8_copy_13 rfl ?_
    refine lv_lconst (v := 0) hx hb dX8_copy_14 (by decide) ?_
    refine lv_ldc2 (v := 7) hx hb hown (hts (.constantLong RX8 40 (7)) (List.mem_of_getElem? (i := 1) rfl)) dX8_copy_15 ?_
    have k_2 := (k_in l D cI cB cQ H.size (p2.toInt64) 0 7)
    refine wc_i (WC := []) (WR := [(h, .inr (7, [.ref sl, .int 0, .ref zs, .ref ln, .ref ir, .ref tk, .int 0, .int 0, .ref tb, .int 0, .int 0, .int 0, .ref tr, .int 0, .ref fz, .int 0])), (zs, .inl (cI, 8, .inl (fun _ => (-1))))]) (va_runS (As := [.long (p2.toInt64), .long 0, .long 7]) (rest := []) ⟨hx, hb, hml, hown, hts⟩ k_2 (va_cwS 3 hts gX8_copy_X8_in rfl rfl rfl (by decide +kernel) ⟨Nat.le_of_ble_eq_true rfl, Nat.le_of_ble_eq_true rfl⟩) (wp_S hP hK hD hN [] (by decide) rfl) rfl rfl hl.1 rfl (lv_room (Nat.le_of_ble_eq_true rfl)) dX8_copy_18 ⟨Nat.le_of_ble_eq_true rfl, Nat.le_of_ble_eq_true rfl⟩) hP hD hS hA [] [0, 1] rfl rfl (by decide) (by decide) (fun r_2 u_2 H locs hw_2 hP hD hS => ?_)
    have hP : va_P D kl [(h, .inr (7, [.ref sl, .int 0, .ref zs, .ref ln, .ref ir, .ref tk, .int 0, .int 0, .ref tb, .int 0, .int 0, .int 0, .ref tr, .int 0, .ref fz, .int 0])), (zs, .inl (cI, 8, .inl (fun _ => (-1))))] H := hP
    have hD : va_D A [(h, .inr (7, [.ref sl, .int 0, .ref zs, .ref ln, .ref ir, .ref tk, .int 0, .int 0, .ref tb, .int 0, .int 0, .int 0, .ref tr, .int 0, .ref fz, .int 0])), (zs, .inl (cI, 8, .inl (fun _ => (-1))))] := hD
    rcases hw_2 with ⟨e_2, f_2⟩ | ⟨e_2, f_2⟩
    · subst e_2
      have f_2 : 0 ≤ p2.toInt ∧ p2.toInt ≤ 7 := by
        have h8 := f_2
        try rw [zl_of] at h8
        exact h8
      refine lv_if_ne (tgt := 27) hx hb dX8_copy_21 (by decide) (fun _ => ?_) (fun c9 => absurd c9 (by decide))
      refine lv_aload_n hx hb dX8_copy_27 rfl (lv_at hl 0 rfl) ?_
      refine va_get (D := D) (ci := 7) (v := .ref zs) (C := RX8) (T := TX8) (N := 16) hx hb hts (fun _ h => List.mem_cons_of_mem _ (List.mem_append_right _ h)) hown hK hP 0 rfl rfl 2 (by decide) (hts (.fieldLink RX8 13 "WinterWalkModel" "size" "[I") (List.mem_of_getElem? (i := 3) rfl)) (fun _ h9 => h9) rfl dX8_copy_28 ?_
      refine lv_iload_n hx hb dX8_copy_31 rfl (lv_at hl 1 rfl) ?_
      refine va_iald hx hb hK hP 1 0 rfl rfl (zi_in (by omega) (by omega)) dX8_copy_32 ?_
      refine lv_topi (fun x_3 ex_3 => ?_)
      obtain rfl : x_3 = (-1) := ex_3
      refine lv_if_lt (tgt := 45) hx hb dX8_copy_33 (by decide) (fun _ => ?_) (fun c9 => absurd (by decide) c9)
      refine lv_aload_n hx hb dX8_copy_45 rfl (lv_at hl 0 rfl) ?_
      refine lv_iconst (v := 1) hx hb dX8_copy_46 (by decide) ?_
      have k_4 := (k_finds l D cI cB cQ H.size h sl zs ln ir tk tb tr fz 1)
      refine wc_i (WC := [(h, .inr (7, [.ref sl, .int 0, .ref zs, .ref ln, .ref ir, .ref tk, .int 0, .int 0, .ref tb, .int 0, .int 0, .int 0, .ref tr, .int 0, .ref fz, .int 0]))]) (WR := [(zs, .inl (cI, 8, .inl (fun _ => (-1))))]) (va_runV (As := [.int 1]) (rest := []) ⟨hx, hb, hml, hown, hts⟩ k_4 (cwV 1 hts gX8_copy_X8_finds rfl rfl rfl (by decide +kernel) ⟨Nat.le_of_ble_eq_true rfl, Nat.le_of_ble_eq_true rfl⟩) (wp_V hP hK hD hN [0] (by decide) rfl (ci := 7) rfl rfl) rfl rfl hl.1 rfl (lv_room (Nat.le_of_ble_eq_true rfl)) dX8_copy_47 ⟨Nat.le_of_ble_eq_true rfl, Nat.le_of_ble_eq_true rfl⟩) hP hD hS hA [0] [1] rfl rfl (by decide) (by decide) (fun r_4 u_4 H locs hw_4 hP hD hS => ?_)
      have hP : va_P D kl [(zs, .inl (cI, 8, .inl (fun _ => (-1))))] H := hP
      have hD : va_D A [(zs, .inl (cI, 8, .inl (fun _ => (-1))))] := hD
      obtain rfl : r_4 = (-1000011) := by first | exact hw_4 | exact hw_4.trans (by decide)
      exact wr_i (v := (-1000011)) hx hb hr hlocks hS () (by unfold sp_copy; (repeat' split) <;> first | rfl | (exfalso; omega)) (hP.sub [] rfl) (hD.sub [] (by decide) rfl) dX8_copy_50
    · subst e_2
      have f_2 : ¬ (0 ≤ p2.toInt ∧ p2.toInt ≤ 7) := by
        have h8 := f_2
        try rw [zl_of] at h8
        exact h8
      refine lv_if_ne (tgt := 27) hx hb dX8_copy_21 (by decide) (fun c9 => absurd (by decide) c9) (fun _ => ?_)
      refine lv_ldc (v := (-1000001)) hx hb hown (hts (.constant RX8 48 (-1000001)) (List.mem_of_getElem? (i := 2) rfl)) dX8_copy_24 ?_
      exact wr_i (v := (-1000001)) hx hb hr hlocks hS () (by unfold sp_copy; (repeat' split) <;> first | rfl | (exfalso; omega)) (hP.sub [] rfl) (hD.sub [] (by decide) rfl) dX8_copy_26
  · subst e_1
    have f_1 : ¬ (0 ≤ p0.toInt ∧ p0.toInt ≤ 7) := by
      have h8 := f_1
      try rw [zl_of] at h8
      exact h8
    refine lv_if_eq (tgt := 24) hx hb dX8_copy_9 (by decide) (fun _ => ?_) (fun c9 => absurd (by decide) c9)
    refine lv_ldc (v := (-1000001)) hx hb hown (hts (.constant RX8 48 (-1000001)) (List.mem_of_getElem? (i := 2) rfl)) dX8_copy_24 ?_
    exact wr_i (v := (-1000001)) hx hb hr hlocks hS () (by unfold sp_copy; (repeat' split) <;> first | rfl | (exfalso; omega)) (hP.sub [] rfl) (hD.sub [] (by decide) rfl) dX8_copy_26
set_option maxHeartbeats 4000000 in
set_option maxRecDepth 100000 in
theorem km_drop (l : Launch) (D : va_G) (cI cB cQ : ClassId) (sz : Nat) (h : Nat) (sl : Nat) (zs : Nat) (ln : Nat) (ir : Nat) (tk : Nat) (tb : Nat) (tr : Nat) (fz : Nat) (p0 : Int32) : mi l yX8_drop wsX8_drop ({ frames := 1, cells := 0, slots := 0, locals := 25 }) D cI cB cQ [.ref h, .int p0] sz [(h, .inr (7, [.ref sl, .int 0, .ref zs, .ref ln, .ref ir, .ref tk, .int 0, .int 0, .ref tb, .int 0, .int 0, .int 0, .ref tr, .int 0, .ref fz, .int 0])), (zs, .inl (cI, 8, .inl (fun _ => (-1))))] (fun (r : Int32) (_u : Unit) => r = sp_drop p0) (fun _ => []) 0 0 := by
  refine wm_i (cc := cX8_drop) (maxL := 3) (ret := (some .int)) (by decide) rfl (Nat.le_of_ble_eq_true rfl) ?_
  intro p e s m below meth c A ls hx hb hr hml hown hts hlocks hin hP hK hD hN hA hl hS
  have hown : s.vm.findClass RX8 = some m.cls := hown
  have hl : lv_has ls 3 [(0, .ref h), (1, .int p0)] := hl
  change W p l e ({ frames := 1, cells := 0, slots := 0, locals := 25 }) s m ([.ref h, .int p0] : List Value).toArray below meth c s.heap [] 0 0 (MQ below (va_Qi (fun (r : Int32) (_u : Unit) => r = sp_drop p0) (fun u t => wb D A ((fun _ => []) u) t) A) ([.ref h, .int p0] : List Value).toArray s 0 0 A) (F0 m 0 ls [])
  refine lv_iload_n hx hb dX8_drop_0 rfl (lv_at hl 1 rfl) ?_
  refine lv_i2l (v := (p0.toInt64)) hx hb dX8_drop_1 rfl ?_
  refine lv_lconst (v := 0) hx hb dX8_drop_2 (by decide) ?_
  refine lv_ldc2 (v := 7) hx hb hown (hts (.constantLong RX8 40 (7)) (List.mem_of_getElem? (i := 1) rfl)) dX8_drop_3 ?_
  have k_1 := (k_in l D cI cB cQ s.heap.size (p0.toInt64) 0 7)
  refine wc_i (WC := []) (WR := [(h, .inr (7, [.ref sl, .int 0, .ref zs, .ref ln, .ref ir, .ref tk, .int 0, .int 0, .ref tb, .int 0, .int 0, .int 0, .ref tr, .int 0, .ref fz, .int 0])), (zs, .inl (cI, 8, .inl (fun _ => (-1))))]) (va_runS (As := [.long (p0.toInt64), .long 0, .long 7]) (rest := []) ⟨hx, hb, hml, hown, hts⟩ k_1 (va_cwS 3 hts gX8_drop_X8_in rfl rfl rfl (by decide +kernel) ⟨Nat.le_of_ble_eq_true rfl, Nat.le_of_ble_eq_true rfl⟩) (wp_S hP hK hD hN [] (by decide) rfl) rfl rfl hl.1 rfl (lv_room (Nat.le_of_ble_eq_true rfl)) dX8_drop_6 ⟨Nat.le_of_ble_eq_true rfl, Nat.le_of_ble_eq_true rfl⟩) hP hD hS hA [] [0, 1] rfl rfl (by decide) (by decide) (fun r_1 u_1 H locs hw_1 hP hD hS => ?_)
  have hP : va_P D kl [(h, .inr (7, [.ref sl, .int 0, .ref zs, .ref ln, .ref ir, .ref tk, .int 0, .int 0, .ref tb, .int 0, .int 0, .int 0, .ref tr, .int 0, .ref fz, .int 0])), (zs, .inl (cI, 8, .inl (fun _ => (-1))))] H := hP
  have hD : va_D A [(h, .inr (7, [.ref sl, .int 0, .ref zs, .ref ln, .ref ir, .ref tk, .int 0, .int 0, .ref tb, .int 0, .int 0, .int 0, .ref tr, .int 0, .ref fz, .int 0])), (zs, .inl (cI, 8, .inl (fun _ => (-1))))] := hD
  rcases hw_1 with ⟨e_1, f_1⟩ | ⟨e_1, f_1⟩
  · subst e_1
    have f_1 : 0 ≤ p0.toInt ∧ p0.toInt ≤ 7 := by
      have h8 := f_1
      try rw [zl_of] at h8
      exact h8
    refine lv_if_ne (tgt := 15) hx hb dX8_drop_9 (by decide) (fun _ => ?_) (fun c9 => absurd c9 (by decide))
    refine lv_aload_n hx hb dX8_drop_15 rfl (lv_at hl 0 rfl) ?_
    refine va_get (D := D) (ci := 7) (v := .ref zs) (C := RX8) (T := TX8) (N := 16) hx hb hts (fun _ h => List.mem_cons_of_mem _ (List.mem_append_right _ h)) hown hK hP 0 rfl rfl 2 (by decide) (hts (.fieldLink RX8 13 "WinterWalkModel" "size" "[I") (List.mem_of_getElem? (i := 3) rfl)) (fun _ h9 => h9) rfl dX8_drop_16 ?_
    refine lv_iload_n hx hb dX8_drop_19 rfl (lv_at hl 1 rfl) ?_
    refine va_iald hx hb hK hP 1 0 rfl rfl (zi_in (by omega) (by omega)) dX8_drop_20 ?_
    refine lv_topi (fun x_2 ex_2 => ?_)
    obtain rfl : x_2 = (-1) := ex_2
    refine lv_if_ge (tgt := 30) hx hb dX8_drop_21 (by decide) (fun c9 => absurd c9 (by decide)) (fun _ => ?_)
    refine lv_aload_n hx hb dX8_drop_24 rfl (lv_at hl 0 rfl) ?_
    refine lv_iconst (v := 1) hx hb dX8_drop_25 (by decide) ?_
    have k_3 := (k_finds l D cI cB cQ H.size h sl zs ln ir tk tb tr fz 1)
    refine wc_i (WC := [(h, .inr (7, [.ref sl, .int 0, .ref zs, .ref ln, .ref ir, .ref tk, .int 0, .int 0, .ref tb, .int 0, .int 0, .int 0, .ref tr, .int 0, .ref fz, .int 0]))]) (WR := [(zs, .inl (cI, 8, .inl (fun _ => (-1))))]) (va_runV (As := [.int 1]) (rest := []) ⟨hx, hb, hml, hown, hts⟩ k_3 (cwV 1 hts gX8_drop_X8_finds rfl rfl rfl (by decide +kernel) ⟨Nat.le_of_ble_eq_true rfl, Nat.le_of_ble_eq_true rfl⟩) (wp_V hP hK hD hN [0] (by decide) rfl (ci := 7) rfl rfl) rfl rfl hl.1 rfl (lv_room (Nat.le_of_ble_eq_true rfl)) dX8_drop_26 ⟨Nat.le_of_ble_eq_true rfl, Nat.le_of_ble_eq_true rfl⟩) hP hD hS hA [0] [1] rfl rfl (by decide) (by decide) (fun r_3 u_3 H locs hw_3 hP hD hS => ?_)
    have hP : va_P D kl [(zs, .inl (cI, 8, .inl (fun _ => (-1))))] H := hP
    have hD : va_D A [(zs, .inl (cI, 8, .inl (fun _ => (-1))))] := hD
    obtain rfl : r_3 = (-1000011) := by first | exact hw_3 | exact hw_3.trans (by decide)
    exact wr_i (v := (-1000011)) hx hb hr hlocks hS () (by unfold sp_drop; (repeat' split) <;> first | rfl | (exfalso; omega)) (hP.sub [] rfl) (hD.sub [] (by decide) rfl) dX8_drop_29
  · subst e_1
    have f_1 : ¬ (0 ≤ p0.toInt ∧ p0.toInt ≤ 7) := by
      have h8 := f_1
      try rw [zl_of] at h8
      exact h8
    refine lv_if_ne (tgt := 15) hx hb dX8_drop_9 (by decide) (fun c9 => absurd (by decide) c9) (fun _ => ?_)
    refine lv_ldc (v := (-1000001)) hx hb hown (hts (.constant RX8 48 (-1000001)) (List.mem_of_getElem? (i := 2) rfl)) dX8_drop_12 ?_
    exact wr_i (v := (-1000001)) hx hb hr hlocks hS () (by unfold sp_drop; (repeat' split) <;> first | rfl | (exfalso; omega)) (hP.sub [] rfl) (hD.sub [] (by decide) rfl) dX8_drop_14
set_option maxHeartbeats 4000000 in
set_option maxRecDepth 100000 in
theorem km_feed (l : Launch) (D : va_G) (cI cB cQ : ClassId) (sz : Nat) (h : Nat) (sl : Nat) (zs : Nat) (ln : Nat) (ir : Nat) (tk : Nat) (tb : Nat) (tr : Nat) (fz : Nat) (p0 : Int32) : mi l yX8_feed wsX8_feed ({ frames := 1, cells := 0, slots := 0, locals := 25 }) D cI cB cQ [.ref h, .int p0] sz [(h, .inr (7, [.ref sl, .int 0, .ref zs, .ref ln, .ref ir, .ref tk, .int 0, .int 0, .ref tb, .int 0, .int 0, .int 0, .ref tr, .int 0, .ref fz, .int 0])), (tb, .inl (cB, 120, .inl (fun _ => 0)))] (fun (r : Int32) (_u : Unit) => r = sp_feed p0) (fun _ => []) 0 0 := by
  refine wm_i (cc := cX8_feed) (maxL := 2) (ret := (some .int)) (by decide) rfl (Nat.le_of_ble_eq_true rfl) ?_
  intro p e s m below meth c A ls hx hb hr hml hown hts hlocks hin hP hK hD hN hA hl hS
  have hown : s.vm.findClass RX8 = some m.cls := hown
  have hl : lv_has ls 2 [(0, .ref h), (1, .int p0)] := hl
  change W p l e ({ frames := 1, cells := 0, slots := 0, locals := 25 }) s m ([.ref h, .int p0] : List Value).toArray below meth c s.heap [] 0 0 (MQ below (va_Qi (fun (r : Int32) (_u : Unit) => r = sp_feed p0) (fun u t => wb D A ((fun _ => []) u) t) A) ([.ref h, .int p0] : List Value).toArray s 0 0 A) (F0 m 0 ls [])
  refine lv_iload_n hx hb dX8_feed_0 rfl (lv_at hl 1 rfl) ?_
  refine lv_i2l (v := (p0.toInt64)) hx hb dX8_feed_1 rfl ?_
  refine lv_lconst (v := 0) hx hb dX8_feed_2 (by decide) ?_
  refine lv_ldc2 (v := 255) hx hb hown (hts (.constantLong RX8 56 (255)) (List.mem_of_getElem? (i := 1) rfl)) dX8_feed_3 ?_
  have k_1 := (k_in l D cI cB cQ s.heap.size (p0.toInt64) 0 255)
  refine wc_i (WC := []) (WR := [(h, .inr (7, [.ref sl, .int 0, .ref zs, .ref ln, .ref ir, .ref tk, .int 0, .int 0, .ref tb, .int 0, .int 0, .int 0, .ref tr, .int 0, .ref fz, .int 0])), (tb, .inl (cB, 120, .inl (fun _ => 0)))]) (va_runS (As := [.long (p0.toInt64), .long 0, .long 255]) (rest := []) ⟨hx, hb, hml, hown, hts⟩ k_1 (va_cwS 3 hts gX8_feed_X8_in rfl rfl rfl (by decide +kernel) ⟨Nat.le_of_ble_eq_true rfl, Nat.le_of_ble_eq_true rfl⟩) (wp_S hP hK hD hN [] (by decide) rfl) rfl rfl hl.1 rfl (lv_room (Nat.le_of_ble_eq_true rfl)) dX8_feed_6 ⟨Nat.le_of_ble_eq_true rfl, Nat.le_of_ble_eq_true rfl⟩) hP hD hS hA [] [0, 1] rfl rfl (by decide) (by decide) (fun r_1 u_1 H locs hw_1 hP hD hS => ?_)
  have hP : va_P D kl [(h, .inr (7, [.ref sl, .int 0, .ref zs, .ref ln, .ref ir, .ref tk, .int 0, .int 0, .ref tb, .int 0, .int 0, .int 0, .ref tr, .int 0, .ref fz, .int 0])), (tb, .inl (cB, 120, .inl (fun _ => 0)))] H := hP
  have hD : va_D A [(h, .inr (7, [.ref sl, .int 0, .ref zs, .ref ln, .ref ir, .ref tk, .int 0, .int 0, .ref tb, .int 0, .int 0, .int 0, .ref tr, .int 0, .ref fz, .int 0])), (tb, .inl (cB, 120, .inl (fun _ => 0)))] := hD
  rcases hw_1 with ⟨e_1, f_1⟩ | ⟨e_1, f_1⟩
  · subst e_1
    have f_1 : 0 ≤ p0.toInt ∧ p0.toInt ≤ 255 := by
      have h8 := f_1
      try rw [zl_of] at h8
      exact h8
    refine lv_if_ne (tgt := 15) hx hb dX8_feed_9 (by decide) (fun _ => ?_) (fun c9 => absurd c9 (by decide))
    refine lv_aload_n hx hb dX8_feed_15 rfl (lv_at hl 0 rfl) ?_
    refine va_get (D := D) (ci := 7) (v := .int 0) (C := RX8) (T := TX8) (N := 16) hx hb hts (fun _ h => List.mem_cons_of_mem _ (List.mem_append_right _ h)) hown hK hP 0 rfl rfl 7 (by decide) (hts (.fieldLink RX8 58 "WinterWalkModel" "length" "I") (List.mem_of_getElem? (i := 3) rfl)) (fun _ h9 => h9) rfl dX8_feed_16 ?_
    refine lv_bipush (v := 120) hx hb dX8_feed_19 (by decide) ?_
    refine lv_icmp_ne (tgt := 27) hx hb dX8_feed_21 (by decide) (fun _ => ?_) (fun c9 => absurd c9 (by decide))
    refine lv_aload_n hx hb dX8_feed_27 rfl (lv_at hl 0 rfl) ?_
    refine va_get (D := D) (ci := 7) (v := .ref tb) (C := RX8) (T := TX8) (N := 16) hx hb hts (fun _ h => List.mem_cons_of_mem _ (List.mem_append_right _ h)) hown hK hP 0 rfl rfl 8 (by decide) (hts (.fieldLink RX8 25 "WinterWalkModel" "tape" "[B") (List.mem_of_getElem? (i := 5) rfl)) (fun _ h9 => h9) rfl dX8_feed_28 ?_
    refine lv_aload_n hx hb dX8_feed_31 rfl (lv_at hl 0 rfl) ?_
    refine va_get (D := D) (ci := 7) (v := .int 0) (C := RX8) (T := TX8) (N := 16) hx hb hts (fun _ h => List.mem_cons_of_mem _ (List.mem_append_right _ h)) hown hK hP 0 rfl rfl 7 (by decide) (hts (.fieldLink RX8 58 "WinterWalkModel" "length" "I") (List.mem_of_getElem? (i := 3) rfl)) (fun _ h9 => h9) rfl dX8_feed_32 ?_
    refine lv_iload_n hx hb dX8_feed_35 rfl (lv_at hl 1 rfl) ?_
    refine lv_i2b (v := (p0).toInt8.toInt32) hx hb dX8_feed_36 rfl ?_
    refine va_bast hx hb hK hP hD hS 1 1 rfl rfl (zi_in (by decide) (by decide)) dX8_feed_37 (fun H locs hP hD hS => ?_)
    have hP : va_P D kl [(h, .inr (7, [.ref sl, .int 0, .ref zs, .ref ln, .ref ir, .ref tk, .int 0, .int 0, .ref tb, .int 0, .int 0, .int 0, .ref tr, .int 0, .ref fz, .int 0])), (tb, .inl (cB, 120, .inl (upd (fun _ => 0) (0 : Int32).toNatClampNeg (vp_nar .byte (p0.toInt8.toInt32)))))] H := hP
    have hD : va_D A [(h, .inr (7, [.ref sl, .int 0, .ref zs, .ref ln, .ref ir, .ref tk, .int 0, .int 0, .ref tb, .int 0, .int 0, .int 0, .ref tr, .int 0, .ref fz, .int 0])), (tb, .inl (cB, 120, .inl (upd (fun _ => 0) (0 : Int32).toNatClampNeg (vp_nar .byte (p0.toInt8.toInt32)))))] := hD
    refine lv_aload_n hx hb dX8_feed_38 rfl (lv_at hl 0 rfl) ?_
    refine lv_dup hx hb dX8_feed_39 rfl ?_
    refine va_get (D := D) (ci := 7) (v := .int 0) (C := RX8) (T := TX8) (N := 16) hx hb hts (fun _ h => List.mem_cons_of_mem _ (List.mem_append_right _ h)) hown hK hP 0 rfl rfl 7 (by decide) (hts (.fieldLink RX8 58 "WinterWalkModel" "length" "I") (List.mem_of_getElem? (i := 3) rfl)) (fun _ h9 => h9) rfl dX8_feed_40 ?_
    refine lv_iconst (v := 1) hx hb dX8_feed_43 (by decide) ?_
    refine lv_iadd hx hb dX8_feed_44 ?_
    refine lv_topi (fun x_2 ex_2 => ?_)
    obtain rfl : x_2 = 1 := ex_2.trans (by decide)
    refine va_put (D := D) (ci := 7) (v := .int 1) (ty := .int) (C := RX8) (T := TX8) (N := 16) hx hb hts (fun _ h => List.mem_cons_of_mem _ (List.mem_append_right _ h)) tyX8 tyX8_ok nmX8 hown hK hP hD hS 0 rfl rfl 7 (by decide) (hts (.fieldLink RX8 58 "WinterWalkModel" "length" "I") (List.mem_of_getElem? (i := 3) rfl)) (fun _ h9 => h9) rfl (by decide +kernel) rfl rfl (Nat.le_of_ble_eq_true rfl) dX8_feed_45 (fun H locs hP hD hS => ?_)
    have hP : va_P D kl [(h, .inr (7, [.ref sl, .int 0, .ref zs, .ref ln, .ref ir, .ref tk, .int 0, .int 1, .ref tb, .int 0, .int 0, .int 0, .ref tr, .int 0, .ref fz, .int 0])), (tb, .inl (cB, 120, .inl (upd (fun _ => 0) (0 : Int32).toNatClampNeg (vp_nar .byte (p0.toInt8.toInt32)))))] H := hP
    have hD : va_D A [(h, .inr (7, [.ref sl, .int 0, .ref zs, .ref ln, .ref ir, .ref tk, .int 0, .int 1, .ref tb, .int 0, .int 0, .int 0, .ref tr, .int 0, .ref fz, .int 0])), (tb, .inl (cB, 120, .inl (upd (fun _ => 0) (0 : Int32).toNatClampNeg (vp_nar .byte (p0.toInt8.toInt32)))))] := hD
    refine lv_aload_n hx hb dX8_feed_48 rfl (lv_at hl 0 rfl) ?_
    refine va_get (D := D) (ci := 7) (v := .int 1) (C := RX8) (T := TX8) (N := 16) hx hb hts (fun _ h => List.mem_cons_of_mem _ (List.mem_append_right _ h)) hown hK hP 0 rfl rfl 7 (by decide) (hts (.fieldLink RX8 58 "WinterWalkModel" "length" "I") (List.mem_of_getElem? (i := 3) rfl)) (fun _ h9 => h9) rfl dX8_feed_49 ?_
    exact wr_i (v := 1) hx hb hr hlocks hS () (by unfold sp_feed; (repeat' split) <;> first | rfl | (exfalso; omega)) (hP.sub [] rfl) (hD.sub [] (by decide) rfl) dX8_feed_52
  · subst e_1
    have f_1 : ¬ (0 ≤ p0.toInt ∧ p0.toInt ≤ 255) := by
      have h8 := f_1
      try rw [zl_of] at h8
      exact h8
    refine lv_if_ne (tgt := 15) hx hb dX8_feed_9 (by decide) (fun c9 => absurd (by decide) c9) (fun _ => ?_)
    refine lv_ldc (v := (-1000001)) hx hb hown (hts (.constant RX8 48 (-1000001)) (List.mem_of_getElem? (i := 2) rfl)) dX8_feed_12 ?_
    exact wr_i (v := (-1000001)) hx hb hr hlocks hS () (by unfold sp_feed; (repeat' split) <;> first | rfl | (exfalso; omega)) (hP.sub [] rfl) (hD.sub [] (by decide) rfl) dX8_feed_14
set_option maxHeartbeats 4000000 in
set_option maxRecDepth 100000 in
theorem km_land (l : Launch) (D : va_G) (cI cB cQ : ClassId) (sz : Nat) (h : Nat) (sl : Nat) (zs : Nat) (ln : Nat) (ir : Nat) (tk : Nat) (tb : Nat) (tr : Nat) (fz : Nat) : mi l yX8_land wsX8_land ({ frames := 3, cells := 0, slots := 0, locals := 67 }) D cI cB cQ [.ref h] sz [(h, .inr (7, [.ref sl, .int 0, .ref zs, .ref ln, .ref ir, .ref tk, .int 0, .int 0, .ref tb, .int 0, .int 0, .int 0, .ref tr, .int 0, .ref fz, .int 0])), (sl, .inl (cI, 1653, .inl (fun _ => 0)))] (fun (r : Int32) (_u : Unit) => r = (-1000100)) (fun _ => []) 0 0 := by
  refine wm_i (cc := cX8_land) (maxL := 2) (ret := (some .int)) (by decide) rfl (Nat.le_of_ble_eq_true rfl) ?_
  intro p e s m below meth c A ls hx hb hr hml hown hts hlocks hin hP hK hD hN hA hl hS
  have hown : s.vm.findClass RX8 = some m.cls := hown
  have hl : lv_has ls 2 [(0, .ref h)] := hl
  change W p l e ({ frames := 3, cells := 0, slots := 0, locals := 67 }) s m ([.ref h] : List Value).toArray below meth c s.heap [] 0 0 (MQ below (va_Qi (fun (r : Int32) (_u : Unit) => r = (-1000100)) (fun u t => wb D A ((fun _ => []) u) t) A) ([.ref h] : List Value).toArray s 0 0 A) (F0 m 0 ls [])
  refine lv_aload_n hx hb dX8_land_0 rfl (lv_at hl 0 rfl) ?_
  have k_1 := (k_mLand l D cI cB cQ s.heap.size h sl zs ln ir tk tb tr fz)
  refine wc_i (WC := [(h, .inr (7, [.ref sl, .int 0, .ref zs, .ref ln, .ref ir, .ref tk, .int 0, .int 0, .ref tb, .int 0, .int 0, .int 0, .ref tr, .int 0, .ref fz, .int 0])), (sl, .inl (cI, 1653, .inl (fun _ => 0)))]) (WR := []) (va_runV (As := []) (rest := []) ⟨hx, hb, hml, hown, hts⟩ k_1 (cwV 0 hts gX8_land_X8_isLand rfl rfl rfl (by decide +kernel) ⟨Nat.le_of_ble_eq_true rfl, Nat.le_of_ble_eq_true rfl⟩) (wp_V hP hK hD hN [0, 1] (by decide) rfl (ci := 7) rfl rfl) rfl rfl hl.1 rfl (lv_room (Nat.le_of_ble_eq_true rfl)) dX8_land_1 ⟨Nat.le_of_ble_eq_true rfl, Nat.le_of_ble_eq_true rfl⟩) hP hD hS hA [0, 1] [] rfl rfl (by decide) (by decide) (fun r_1 u_1 H locs hw_1 hP hD hS => ?_)
  have hP : va_P D kl [(h, .inr (7, [.ref sl, .int 0, .ref zs, .ref ln, .ref ir, .ref tk, .int 0, .int 0, .ref tb, .int 1, .int 0, .int 0, .ref tr, .int 0, .ref fz, .int 0]))] H := hP
  have hD : va_D A [(h, .inr (7, [.ref sl, .int 0, .ref zs, .ref ln, .ref ir, .ref tk, .int 0, .int 0, .ref tb, .int 1, .int 0, .int 0, .ref tr, .int 0, .ref fz, .int 0]))] := hD
  obtain rfl : r_1 = 0 := by first | exact hw_1 | exact hw_1.trans (by decide)
  refine lv_istore_n (lv' := [(1, .int 0), (0, .ref h)]) hx hb dX8_land_4 rfl hl (by decide) rfl (fun ls hl => ?_)
  refine lv_aload_n hx hb dX8_land_5 rfl (lv_at hl 1 rfl) ?_
  refine lv_iconst (v := 0) hx hb dX8_land_6 (by decide) ?_
  refine va_put (D := D) (ci := 7) (v := .int 0) (ty := .int) (C := RX8) (T := TX8) (N := 16) hx hb hts (fun _ h => List.mem_cons_of_mem _ (List.mem_append_right _ h)) tyX8 tyX8_ok nmX8 hown hK hP hD hS 0 rfl rfl 7 (by decide) (hts (.fieldLink RX8 58 "WinterWalkModel" "length" "I") (List.mem_of_getElem? (i := 1) rfl)) (fun _ h9 => h9) rfl (by decide +kernel) rfl rfl (Nat.le_of_ble_eq_true rfl) dX8_land_7 (fun H locs hP hD hS => ?_)
  have hP : va_P D kl [(h, .inr (7, [.ref sl, .int 0, .ref zs, .ref ln, .ref ir, .ref tk, .int 0, .int 0, .ref tb, .int 1, .int 0, .int 0, .ref tr, .int 0, .ref fz, .int 0]))] H := hP
  have hD : va_D A [(h, .inr (7, [.ref sl, .int 0, .ref zs, .ref ln, .ref ir, .ref tk, .int 0, .int 0, .ref tb, .int 1, .int 0, .int 0, .ref tr, .int 0, .ref fz, .int 0]))] := hD
  refine lv_iload_n hx hb dX8_land_10 rfl (lv_at hl 0 rfl) ?_
  refine lv_if_ne (tgt := 22) hx hb dX8_land_11 (by decide) (fun c9 => absurd (by decide) c9) (fun _ => ?_)
  refine lv_ldc (v := (-1000100)) hx hb hown (hts (.constant RX8 113 (-1000100)) (List.mem_of_getElem? (i := 2) rfl)) dX8_land_14 ?_
  refine lv_aload_n hx hb dX8_land_16 rfl (lv_at hl 1 rfl) ?_
  refine va_get (D := D) (ci := 7) (v := .int 0) (C := RX8) (T := TX8) (N := 16) hx hb hts (fun _ h => List.mem_cons_of_mem _ (List.mem_append_right _ h)) hown hK hP 0 rfl rfl 11 (by decide) (hts (.fieldLink RX8 68 "WinterWalkModel" "place" "I") (List.mem_of_getElem? (i := 3) rfl)) (fun _ h9 => h9) rfl dX8_land_17 ?_
  refine lv_isub hx hb dX8_land_20 ?_
  refine lv_topi (fun x_2 ex_2 => ?_)
  obtain rfl : x_2 = (-1000100) := ex_2.trans (by decide)
  exact wr_i (v := (-1000100)) hx hb hr hlocks hS () (by rfl) (hP.sub [] rfl) (hD.sub [] (by decide) rfl) dX8_land_21
set_option maxHeartbeats 4000000 in
set_option maxRecDepth 100000 in
theorem km_fault (l : Launch) (D : va_G) (cI cB cQ : ClassId) (sz : Nat) (h : Nat) (sl : Nat) (zs : Nat) (ln : Nat) (ir : Nat) (tk : Nat) (tb : Nat) (tr : Nat) (fz : Nat) : mi l yX8_fault wsX8_fault ({ frames := 0, cells := 0, slots := 0, locals := 0 }) D cI cB cQ [.ref h] sz [(h, .inr (7, [.ref sl, .int 0, .ref zs, .ref ln, .ref ir, .ref tk, .int 0, .int 0, .ref tb, .int 0, .int 0, .int 0, .ref tr, .int 0, .ref fz, .int 0]))] (fun (r : Int32) (_u : Unit) => r = 0) (fun _ => []) 0 0 := by
  refine wm_i (cc := cX8_fault) (maxL := 1) (ret := (some .int)) (by decide) rfl (Nat.le_of_ble_eq_true rfl) ?_
  intro p e s m below meth c A ls hx hb hr hml hown hts hlocks hin hP hK hD hN hA hl hS
  have hown : s.vm.findClass RX8 = some m.cls := hown
  have hl : lv_has ls 1 [(0, .ref h)] := hl
  change W p l e ({ frames := 0, cells := 0, slots := 0, locals := 0 }) s m ([.ref h] : List Value).toArray below meth c s.heap [] 0 0 (MQ below (va_Qi (fun (r : Int32) (_u : Unit) => r = 0) (fun u t => wb D A ((fun _ => []) u) t) A) ([.ref h] : List Value).toArray s 0 0 A) (F0 m 0 ls [])
  refine lv_aload_n hx hb dX8_fault_0 rfl (lv_at hl 0 rfl) ?_
  refine va_get (D := D) (ci := 7) (v := .int 0) (C := RX8) (T := TX8) (N := 16) hx hb hts (fun _ h => List.mem_cons_of_mem _ (List.mem_append_right _ h)) hown hK hP 0 rfl rfl 9 (by decide) (hts (.fieldLink RX8 65 "WinterWalkModel" "fault" "I") (List.mem_of_getElem? (i := 1) rfl)) (fun _ h9 => h9) rfl dX8_fault_1 ?_
  exact wr_i (v := 0) hx hb hr hlocks hS () (by rfl) (hP.sub [] rfl) (hD.sub [] (by decide) rfl) dX8_fault_4
set_option maxHeartbeats 4000000 in
set_option maxRecDepth 100000 in
theorem km_undo (l : Launch) (D : va_G) (cI cB cQ : ClassId) (sz : Nat) (h : Nat) (sl : Nat) (zs : Nat) (ln : Nat) (ir : Nat) (tk : Nat) (tb : Nat) (tr : Nat) (fz : Nat) : mi l yX8_undo wsX8_undo ({ frames := 0, cells := 0, slots := 0, locals := 0 }) D cI cB cQ [.ref h] sz [(h, .inr (7, [.ref sl, .int 0, .ref zs, .ref ln, .ref ir, .ref tk, .int 0, .int 0, .ref tb, .int 0, .int 0, .int 0, .ref tr, .int 0, .ref fz, .int 0]))] (fun (r : Int32) (_u : Unit) => r = (-1000002)) (fun _ => []) 0 0 := by
  refine wm_i (cc := cX8_undo) (maxL := 1) (ret := (some .int)) (by decide) rfl (Nat.le_of_ble_eq_true rfl) ?_
  intro p e s m below meth c A ls hx hb hr hml hown hts hlocks hin hP hK hD hN hA hl hS
  have hown : s.vm.findClass RX8 = some m.cls := hown
  have hl : lv_has ls 1 [(0, .ref h)] := hl
  change W p l e ({ frames := 0, cells := 0, slots := 0, locals := 0 }) s m ([.ref h] : List Value).toArray below meth c s.heap [] 0 0 (MQ below (va_Qi (fun (r : Int32) (_u : Unit) => r = (-1000002)) (fun u t => wb D A ((fun _ => []) u) t) A) ([.ref h] : List Value).toArray s 0 0 A) (F0 m 0 ls [])
  refine lv_aload_n hx hb dX8_undo_0 rfl (lv_at hl 0 rfl) ?_
  refine va_get (D := D) (ci := 7) (v := .int 0) (C := RX8) (T := TX8) (N := 16) hx hb hts (fun _ h => List.mem_cons_of_mem _ (List.mem_append_right _ h)) hown hK hP 0 rfl rfl 1 (by decide) (hts (.fieldLink RX8 118 "WinterWalkModel" "acts" "I") (List.mem_of_getElem? (i := 1) rfl)) (fun _ h9 => h9) rfl dX8_undo_1 ?_
  refine lv_if_ne (tgt := 10) hx hb dX8_undo_4 (by decide) (fun c9 => absurd (by decide) c9) (fun _ => ?_)
  refine lv_ldc (v := (-1000002)) hx hb hown (hts (.constant RX8 121 (-1000002)) (List.mem_of_getElem? (i := 2) rfl)) dX8_undo_7 ?_
  exact wr_i (v := (-1000002)) hx hb hr hlocks hS () (by rfl) (hP.sub [] rfl) (hD.sub [] (by decide) rfl) dX8_undo_9
set_option maxHeartbeats 4000000 in
set_option maxRecDepth 100000 in
theorem km_days (l : Launch) (D : va_G) (cI cB cQ : ClassId) (sz : Nat) (h : Nat) (sl : Nat) (zs : Nat) (ln : Nat) (ir : Nat) (tk : Nat) (tb : Nat) (tr : Nat) (fz : Nat) (p0 : Int32) : mi l yX8_days wsX8_days ({ frames := 0, cells := 0, slots := 0, locals := 0 }) D cI cB cQ [.ref h, .int p0] sz [(h, .inr (7, [.ref sl, .int 0, .ref zs, .ref ln, .ref ir, .ref tk, .int 0, .int 0, .ref tb, .int 0, .int 0, .int 0, .ref tr, .int 0, .ref fz, .int 0])), (sl, .inl (cI, 1653, .inl (fun _ => 0)))] (fun (r : Int32) (_u : Unit) => r = (-1000002)) (fun _ => []) 0 0 := by
  refine wm_i (cc := cX8_days) (maxL := 3) (ret := (some .int)) (by decide) rfl (Nat.le_of_ble_eq_true rfl) ?_
  intro p e s m below meth c A ls hx hb hr hml hown hts hlocks hin hP hK hD hN hA hl hS
  have hown : s.vm.findClass RX8 = some m.cls := hown
  have hl : lv_has ls 3 [(0, .ref h), (1, .int p0)] := hl
  change W p l e ({ frames := 0, cells := 0, slots := 0, locals := 0 }) s m ([.ref h, .int p0] : List Value).toArray below meth c s.heap [] 0 0 (MQ below (va_Qi (fun (r : Int32) (_u : Unit) => r = (-1000002)) (fun u t => wb D A ((fun _ => []) u) t) A) ([.ref h, .int p0] : List Value).toArray s 0 0 A) (F0 m 0 ls [])
  refine lv_aload_n hx hb dX8_days_0 rfl (lv_at hl 0 rfl) ?_
  refine va_get (D := D) (ci := 7) (v := .ref sl) (C := RX8) (T := TX8) (N := 16) hx hb hts (fun _ h => List.mem_cons_of_mem _ (List.mem_append_right _ h)) hown hK hP 0 rfl rfl 0 (by decide) (hts (.fieldLink RX8 7 "WinterWalkModel" "slot" "[I") (List.mem_of_getElem? (i := 1) rfl)) (fun _ h9 => h9) rfl dX8_days_1 ?_
  refine lv_iconst (v := 1) hx hb dX8_days_4 (by decide) ?_
  refine va_iald hx hb hK hP 1 0 rfl rfl (zi_in (by decide) (by decide)) dX8_days_5 ?_
  refine lv_topi (fun x_1 ex_1 => ?_)
  obtain rfl : x_1 = 0 := ex_1
  refine lv_if_ne (tgt := 12) hx hb dX8_days_6 (by decide) (fun c9 => absurd (by decide) c9) (fun _ => ?_)
  refine lv_ldc (v := (-1000002)) hx hb hown (hts (.constant RX8 121 (-1000002)) (List.mem_of_getElem? (i := 2) rfl)) dX8_days_9 ?_
  exact wr_i (v := (-1000002)) hx hb hr hlocks hS () (by rfl) (hP.sub [] rfl) (hD.sub [] (by decide) rfl) dX8_days_11
set_option maxHeartbeats 4000000 in
set_option maxRecDepth 100000 in
theorem km_offer (l : Launch) (D : va_G) (cI cB cQ : ClassId) (sz : Nat) (h : Nat) (sl : Nat) (zs : Nat) (ln : Nat) (ir : Nat) (tk : Nat) (tb : Nat) (tr : Nat) (fz : Nat) (p0 : Int32) (p1 : Int32) : mi l yX8_offer wsX8_offer ({ frames := 2, cells := 0, slots := 0, locals := 46 }) D cI cB cQ [.ref h, .int p0, .int p1] sz [(h, .inr (7, [.ref sl, .int 0, .ref zs, .ref ln, .ref ir, .ref tk, .int 0, .int 0, .ref tb, .int 0, .int 0, .int 0, .ref tr, .int 0, .ref fz, .int 0])), (sl, .inl (cI, 1653, .inl (fun _ => 0)))] (fun (r : Int32) (_u : Unit) => r = (-1000001)) (fun _ => []) 0 0 := by
  refine wm_i (cc := cX8_offer) (maxL := 4) (ret := (some .int)) (by decide) rfl (Nat.le_of_ble_eq_true rfl) ?_
  intro p e s m below meth c A ls hx hb hr hml hown hts hlocks hin hP hK hD hN hA hl hS
  have hown : s.vm.findClass RX8 = some m.cls := hown
  have hl : lv_has ls 4 [(0, .ref h), (1, .int p0), (2, .int p1)] := hl
  change W p l e ({ frames := 2, cells := 0, slots := 0, locals := 46 }) s m ([.ref h, .int p0, .int p1] : List Value).toArray below meth c s.heap [] 0 0 (MQ below (va_Qi (fun (r : Int32) (_u : Unit) => r = (-1000001)) (fun u t => wb D A ((fun _ => []) u) t) A) ([.ref h, .int p0, .int p1] : List Value).toArray s 0 0 A) (F0 m 0 ls [])
  refine lv_aload_n hx hb dX8_offer_0 rfl (lv_at hl 0 rfl) ?_
  refine lv_iload_n hx hb dX8_offer_1 rfl (lv_at hl 1 rfl) ?_
  have k_1 := (k_isVT l D cI cB cQ s.heap.size h sl zs ln ir tk tb tr fz p0)
  refine wc_i (WC := [(h, .inr (7, [.ref sl, .int 0, .ref zs, .ref ln, .ref ir, .ref tk, .int 0, .int 0, .ref tb, .int 0, .int 0, .int 0, .ref tr, .int 0, .ref fz, .int 0])), (sl, .inl (cI, 1653, .inl (fun _ => 0)))]) (WR := []) (va_runV (As := [.int p0]) (rest := []) ⟨hx, hb, hml, hown, hts⟩ k_1 (cwV 1 hts gX8_offer_X8_isVillageThere rfl rfl rfl (by decide +kernel) ⟨Nat.le_of_ble_eq_true rfl, Nat.le_of_ble_eq_true rfl⟩) (wp_V hP hK hD hN [0, 1] (by decide) rfl (ci := 7) rfl rfl) rfl rfl hl.1 rfl (lv_room (Nat.le_of_ble_eq_true rfl)) dX8_offer_2 ⟨Nat.le_of_ble_eq_true rfl, Nat.le_of_ble_eq_true rfl⟩) hP hD hS hA [0, 1] [] rfl rfl (by decide) (by decide) (fun r_1 u_1 H locs hw_1 hP hD hS => ?_)
  have hP : va_P D kl [(h, .inr (7, [.ref sl, .int 0, .ref zs, .ref ln, .ref ir, .ref tk, .int 0, .int 0, .ref tb, .int 0, .int 0, .int 0, .ref tr, .int 0, .ref fz, .int 0])), (sl, .inl (cI, 1653, .inl (fun _ => 0)))] H := hP
  have hD : va_D A [(h, .inr (7, [.ref sl, .int 0, .ref zs, .ref ln, .ref ir, .ref tk, .int 0, .int 0, .ref tb, .int 0, .int 0, .int 0, .ref tr, .int 0, .ref fz, .int 0])), (sl, .inl (cI, 1653, .inl (fun _ => 0)))] := hD
  obtain rfl : r_1 = 0 := by first | exact hw_1 | exact hw_1.trans (by decide)
  refine lv_if_eq (tgt := 20) hx hb dX8_offer_5 (by decide) (fun _ => ?_) (fun c9 => absurd (by decide) c9)
  refine lv_ldc (v := (-1000001)) hx hb hown (hts (.constant RX8 48 (-1000001)) (List.mem_of_getElem? (i := 2) rfl)) dX8_offer_20 ?_
  exact wr_i (v := (-1000001)) hx hb hr hlocks hS () (by rfl) (hP.sub [] rfl) (hD.sub [] (by decide) rfl) dX8_offer_22
set_option maxHeartbeats 4000000 in
set_option maxRecDepth 100000 in
theorem km_door (l : Launch) (D : va_G) (cI cB cQ : ClassId) (sz : Nat) (h : Nat) (sl : Nat) (zs : Nat) (ln : Nat) (ir : Nat) (tk : Nat) (tb : Nat) (tr : Nat) (fz : Nat) (p0 : Int32) (p1 : Int32) : mi l yX8_door wsX8_door ({ frames := 2, cells := 0, slots := 0, locals := 46 }) D cI cB cQ [.ref h, .int p0, .int p1] sz [(h, .inr (7, [.ref sl, .int 0, .ref zs, .ref ln, .ref ir, .ref tk, .int 0, .int 0, .ref tb, .int 0, .int 0, .int 0, .ref tr, .int 0, .ref fz, .int 0])), (sl, .inl (cI, 1653, .inl (fun _ => 0)))] (fun (r : Int32) (_u : Unit) => r = (-1000001)) (fun _ => []) 0 0 := by
  refine wm_i (cc := cX8_door) (maxL := 3) (ret := (some .int)) (by decide) rfl (Nat.le_of_ble_eq_true rfl) ?_
  intro p e s m below meth c A ls hx hb hr hml hown hts hlocks hin hP hK hD hN hA hl hS
  have hown : s.vm.findClass RX8 = some m.cls := hown
  have hl : lv_has ls 3 [(0, .ref h), (1, .int p0), (2, .int p1)] := hl
  change W p l e ({ frames := 2, cells := 0, slots := 0, locals := 46 }) s m ([.ref h, .int p0, .int p1] : List Value).toArray below meth c s.heap [] 0 0 (MQ below (va_Qi (fun (r : Int32) (_u : Unit) => r = (-1000001)) (fun u t => wb D A ((fun _ => []) u) t) A) ([.ref h, .int p0, .int p1] : List Value).toArray s 0 0 A) (F0 m 0 ls [])
  refine lv_aload_n hx hb dX8_door_0 rfl (lv_at hl 0 rfl) ?_
  refine lv_iload_n hx hb dX8_door_1 rfl (lv_at hl 1 rfl) ?_
  have k_1 := (k_isVT l D cI cB cQ s.heap.size h sl zs ln ir tk tb tr fz p0)
  refine wc_i (WC := [(h, .inr (7, [.ref sl, .int 0, .ref zs, .ref ln, .ref ir, .ref tk, .int 0, .int 0, .ref tb, .int 0, .int 0, .int 0, .ref tr, .int 0, .ref fz, .int 0])), (sl, .inl (cI, 1653, .inl (fun _ => 0)))]) (WR := []) (va_runV (As := [.int p0]) (rest := []) ⟨hx, hb, hml, hown, hts⟩ k_1 (cwV 1 hts gX8_door_X8_isVillageThere rfl rfl rfl (by decide +kernel) ⟨Nat.le_of_ble_eq_true rfl, Nat.le_of_ble_eq_true rfl⟩) (wp_V hP hK hD hN [0, 1] (by decide) rfl (ci := 7) rfl rfl) rfl rfl hl.1 rfl (lv_room (Nat.le_of_ble_eq_true rfl)) dX8_door_2 ⟨Nat.le_of_ble_eq_true rfl, Nat.le_of_ble_eq_true rfl⟩) hP hD hS hA [0, 1] [] rfl rfl (by decide) (by decide) (fun r_1 u_1 H locs hw_1 hP hD hS => ?_)
  have hP : va_P D kl [(h, .inr (7, [.ref sl, .int 0, .ref zs, .ref ln, .ref ir, .ref tk, .int 0, .int 0, .ref tb, .int 0, .int 0, .int 0, .ref tr, .int 0, .ref fz, .int 0])), (sl, .inl (cI, 1653, .inl (fun _ => 0)))] H := hP
  have hD : va_D A [(h, .inr (7, [.ref sl, .int 0, .ref zs, .ref ln, .ref ir, .ref tk, .int 0, .int 0, .ref tb, .int 0, .int 0, .int 0, .ref tr, .int 0, .ref fz, .int 0])), (sl, .inl (cI, 1653, .inl (fun _ => 0)))] := hD
  obtain rfl : r_1 = 0 := by first | exact hw_1 | exact hw_1.trans (by decide)
  refine lv_if_eq (tgt := 18) hx hb dX8_door_5 (by decide) (fun _ => ?_) (fun c9 => absurd (by decide) c9)
  refine lv_ldc (v := (-1000001)) hx hb hown (hts (.constant RX8 48 (-1000001)) (List.mem_of_getElem? (i := 1) rfl)) dX8_door_18 ?_
  exact wr_i (v := (-1000001)) hx hb hr hlocks hS () (by rfl) (hP.sub [] rfl) (hD.sub [] (by decide) rfl) dX8_door_20
set_option maxHeartbeats 4000000 in
set_option maxRecDepth 100000 in
theorem km_village (l : Launch) (D : va_G) (cI cB cQ : ClassId) (sz : Nat) (h : Nat) (sl : Nat) (zs : Nat) (ln : Nat) (ir : Nat) (tk : Nat) (tb : Nat) (tr : Nat) (fz : Nat) (p0 : Int32) (p1 : Int32) : mi l yX8_village wsX8_village ({ frames := 2, cells := 0, slots := 0, locals := 46 }) D cI cB cQ [.ref h, .int p0, .int p1] sz [(h, .inr (7, [.ref sl, .int 0, .ref zs, .ref ln, .ref ir, .ref tk, .int 0, .int 0, .ref tb, .int 0, .int 0, .int 0, .ref tr, .int 0, .ref fz, .int 0])), (sl, .inl (cI, 1653, .inl (fun _ => 0)))] (fun (r : Int32) (_u : Unit) => r = (-1000001)) (fun _ => []) 0 0 := by
  refine wm_i (cc := cX8_village) (maxL := 3) (ret := (some .int)) (by decide) rfl (Nat.le_of_ble_eq_true rfl) ?_
  intro p e s m below meth c A ls hx hb hr hml hown hts hlocks hin hP hK hD hN hA hl hS
  have hown : s.vm.findClass RX8 = some m.cls := hown
  have hl : lv_has ls 3 [(0, .ref h), (1, .int p0), (2, .int p1)] := hl
  change W p l e ({ frames := 2, cells := 0, slots := 0, locals := 46 }) s m ([.ref h, .int p0, .int p1] : List Value).toArray below meth c s.heap [] 0 0 (MQ below (va_Qi (fun (r : Int32) (_u : Unit) => r = (-1000001)) (fun u t => wb D A ((fun _ => []) u) t) A) ([.ref h, .int p0, .int p1] : List Value).toArray s 0 0 A) (F0 m 0 ls [])
  refine lv_aload_n hx hb dX8_village_0 rfl (lv_at hl 0 rfl) ?_
  refine lv_iload_n hx hb dX8_village_1 rfl (lv_at hl 1 rfl) ?_
  have k_1 := (k_isVT l D cI cB cQ s.heap.size h sl zs ln ir tk tb tr fz p0)
  refine wc_i (WC := [(h, .inr (7, [.ref sl, .int 0, .ref zs, .ref ln, .ref ir, .ref tk, .int 0, .int 0, .ref tb, .int 0, .int 0, .int 0, .ref tr, .int 0, .ref fz, .int 0])), (sl, .inl (cI, 1653, .inl (fun _ => 0)))]) (WR := []) (va_runV (As := [.int p0]) (rest := []) ⟨hx, hb, hml, hown, hts⟩ k_1 (cwV 1 hts gX8_village_X8_isVillageThere rfl rfl rfl (by decide +kernel) ⟨Nat.le_of_ble_eq_true rfl, Nat.le_of_ble_eq_true rfl⟩) (wp_V hP hK hD hN [0, 1] (by decide) rfl (ci := 7) rfl rfl) rfl rfl hl.1 rfl (lv_room (Nat.le_of_ble_eq_true rfl)) dX8_village_2 ⟨Nat.le_of_ble_eq_true rfl, Nat.le_of_ble_eq_true rfl⟩) hP hD hS hA [0, 1] [] rfl rfl (by decide) (by decide) (fun r_1 u_1 H locs hw_1 hP hD hS => ?_)
  have hP : va_P D kl [(h, .inr (7, [.ref sl, .int 0, .ref zs, .ref ln, .ref ir, .ref tk, .int 0, .int 0, .ref tb, .int 0, .int 0, .int 0, .ref tr, .int 0, .ref fz, .int 0])), (sl, .inl (cI, 1653, .inl (fun _ => 0)))] H := hP
  have hD : va_D A [(h, .inr (7, [.ref sl, .int 0, .ref zs, .ref ln, .ref ir, .ref tk, .int 0, .int 0, .ref tb, .int 0, .int 0, .int 0, .ref tr, .int 0, .ref fz, .int 0])), (sl, .inl (cI, 1653, .inl (fun _ => 0)))] := hD
  obtain rfl : r_1 = 0 := by first | exact hw_1 | exact hw_1.trans (by decide)
  refine lv_if_eq (tgt := 20) hx hb dX8_village_5 (by decide) (fun _ => ?_) (fun c9 => absurd (by decide) c9)
  refine lv_ldc (v := (-1000001)) hx hb hown (hts (.constant RX8 48 (-1000001)) (List.mem_of_getElem? (i := 2) rfl)) dX8_village_20 ?_
  exact wr_i (v := (-1000001)) hx hb hr hlocks hS () (by rfl) (hP.sub [] rfl) (hD.sub [] (by decide) rfl) dX8_village_22
set_option maxHeartbeats 4000000 in
set_option maxRecDepth 100000 in
theorem km_walker (l : Launch) (D : va_G) (cI cB cQ : ClassId) (sz : Nat) (h : Nat) (sl : Nat) (zs : Nat) (ln : Nat) (ir : Nat) (tk : Nat) (tb : Nat) (tr : Nat) (fz : Nat) (p0 : Int32) (p1 : Int32) : mi l yX8_walker wsX8_walker ({ frames := 2, cells := 0, slots := 0, locals := 46 }) D cI cB cQ [.ref h, .int p0, .int p1] sz [(h, .inr (7, [.ref sl, .int 0, .ref zs, .ref ln, .ref ir, .ref tk, .int 0, .int 0, .ref tb, .int 0, .int 0, .int 0, .ref tr, .int 0, .ref fz, .int 0])), (sl, .inl (cI, 1653, .inl (fun _ => 0)))] (fun (r : Int32) (_u : Unit) => r = (-1000001)) (fun _ => []) 0 0 := by
  refine wm_i (cc := cX8_walker) (maxL := 3) (ret := (some .int)) (by decide) rfl (Nat.le_of_ble_eq_true rfl) ?_
  intro p e s m below meth c A ls hx hb hr hml hown hts hlocks hin hP hK hD hN hA hl hS
  have hown : s.vm.findClass RX8 = some m.cls := hown
  have hl : lv_has ls 3 [(0, .ref h), (1, .int p0), (2, .int p1)] := hl
  change W p l e ({ frames := 2, cells := 0, slots := 0, locals := 46 }) s m ([.ref h, .int p0, .int p1] : List Value).toArray below meth c s.heap [] 0 0 (MQ below (va_Qi (fun (r : Int32) (_u : Unit) => r = (-1000001)) (fun u t => wb D A ((fun _ => []) u) t) A) ([.ref h, .int p0, .int p1] : List Value).toArray s 0 0 A) (F0 m 0 ls [])
  refine lv_aload_n hx hb dX8_walker_0 rfl (lv_at hl 0 rfl) ?_
  refine lv_iload_n hx hb dX8_walker_1 rfl (lv_at hl 1 rfl) ?_
  have k_1 := (k_isWT l D cI cB cQ s.heap.size h sl zs ln ir tk tb tr fz p0)
  refine wc_i (WC := [(h, .inr (7, [.ref sl, .int 0, .ref zs, .ref ln, .ref ir, .ref tk, .int 0, .int 0, .ref tb, .int 0, .int 0, .int 0, .ref tr, .int 0, .ref fz, .int 0])), (sl, .inl (cI, 1653, .inl (fun _ => 0)))]) (WR := []) (va_runV (As := [.int p0]) (rest := []) ⟨hx, hb, hml, hown, hts⟩ k_1 (cwV 1 hts gX8_walker_X8_isWalkerThere rfl rfl rfl (by decide +kernel) ⟨Nat.le_of_ble_eq_true rfl, Nat.le_of_ble_eq_true rfl⟩) (wp_V hP hK hD hN [0, 1] (by decide) rfl (ci := 7) rfl rfl) rfl rfl hl.1 rfl (lv_room (Nat.le_of_ble_eq_true rfl)) dX8_walker_2 ⟨Nat.le_of_ble_eq_true rfl, Nat.le_of_ble_eq_true rfl⟩) hP hD hS hA [0, 1] [] rfl rfl (by decide) (by decide) (fun r_1 u_1 H locs hw_1 hP hD hS => ?_)
  have hP : va_P D kl [(h, .inr (7, [.ref sl, .int 0, .ref zs, .ref ln, .ref ir, .ref tk, .int 0, .int 0, .ref tb, .int 0, .int 0, .int 0, .ref tr, .int 0, .ref fz, .int 0])), (sl, .inl (cI, 1653, .inl (fun _ => 0)))] H := hP
  have hD : va_D A [(h, .inr (7, [.ref sl, .int 0, .ref zs, .ref ln, .ref ir, .ref tk, .int 0, .int 0, .ref tb, .int 0, .int 0, .int 0, .ref tr, .int 0, .ref fz, .int 0])), (sl, .inl (cI, 1653, .inl (fun _ => 0)))] := hD
  obtain rfl : r_1 = 0 := by first | exact hw_1 | exact hw_1.trans (by decide)
  refine lv_if_eq (tgt := 20) hx hb dX8_walker_5 (by decide) (fun _ => ?_) (fun c9 => absurd (by decide) c9)
  refine lv_ldc (v := (-1000001)) hx hb hown (hts (.constant RX8 48 (-1000001)) (List.mem_of_getElem? (i := 2) rfl)) dX8_walker_20 ?_
  exact wr_i (v := (-1000001)) hx hb hr hlocks hS () (by rfl) (hP.sub [] rfl) (hD.sub [] (by decide) rfl) dX8_walker_22
set_option maxHeartbeats 4000000 in
set_option maxRecDepth 100000 in
theorem km_ahead (l : Launch) (D : va_G) (cI cB cQ : ClassId) (sz : Nat) (h : Nat) (sl : Nat) (zs : Nat) (ln : Nat) (ir : Nat) (tk : Nat) (tb : Nat) (tr : Nat) (fz : Nat) (p0 : Int32) (p1 : Int32) (p2 : Int32) : mi l yX8_ahead wsX8_ahead ({ frames := 2, cells := 0, slots := 0, locals := 46 }) D cI cB cQ [.ref h, .int p0, .int p1, .int p2] sz [(h, .inr (7, [.ref sl, .int 0, .ref zs, .ref ln, .ref ir, .ref tk, .int 0, .int 0, .ref tb, .int 0, .int 0, .int 0, .ref tr, .int 0, .ref fz, .int 0])), (sl, .inl (cI, 1653, .inl (fun _ => 0)))] (fun (r : Int32) (_u : Unit) => r = (-1000001)) (fun _ => []) 0 0 := by
  refine wm_i (cc := cX8_ahead) (maxL := 4) (ret := (some .int)) (by decide) rfl (Nat.le_of_ble_eq_true rfl) ?_
  intro p e s m below meth c A ls hx hb hr hml hown hts hlocks hin hP hK hD hN hA hl hS
  have hown : s.vm.findClass RX8 = some m.cls := hown
  have hl : lv_has ls 4 [(0, .ref h), (1, .int p0), (2, .int p1), (3, .int p2)] := hl
  change W p l e ({ frames := 2, cells := 0, slots := 0, locals := 46 }) s m ([.ref h, .int p0, .int p1, .int p2] : List Value).toArray below meth c s.heap [] 0 0 (MQ below (va_Qi (fun (r : Int32) (_u : Unit) => r = (-1000001)) (fun u t => wb D A ((fun _ => []) u) t) A) ([.ref h, .int p0, .int p1, .int p2] : List Value).toArray s 0 0 A) (F0 m 0 ls [])
  refine lv_aload_n hx hb dX8_ahead_0 rfl (lv_at hl 0 rfl) ?_
  refine lv_iload_n hx hb dX8_ahead_1 rfl (lv_at hl 1 rfl) ?_
  have k_1 := (k_isWT l D cI cB cQ s.heap.size h sl zs ln ir tk tb tr fz p0)
  refine wc_i (WC := [(h, .inr (7, [.ref sl, .int 0, .ref zs, .ref ln, .ref ir, .ref tk, .int 0, .int 0, .ref tb, .int 0, .int 0, .int 0, .ref tr, .int 0, .ref fz, .int 0])), (sl, .inl (cI, 1653, .inl (fun _ => 0)))]) (WR := []) (va_runV (As := [.int p0]) (rest := []) ⟨hx, hb, hml, hown, hts⟩ k_1 (cwV 1 hts gX8_ahead_X8_isWalkerThere rfl rfl rfl (by decide +kernel) ⟨Nat.le_of_ble_eq_true rfl, Nat.le_of_ble_eq_true rfl⟩) (wp_V hP hK hD hN [0, 1] (by decide) rfl (ci := 7) rfl rfl) rfl rfl hl.1 rfl (lv_room (Nat.le_of_ble_eq_true rfl)) dX8_ahead_2 ⟨Nat.le_of_ble_eq_true rfl, Nat.le_of_ble_eq_true rfl⟩) hP hD hS hA [0, 1] [] rfl rfl (by decide) (by decide) (fun r_1 u_1 H locs hw_1 hP hD hS => ?_)
  have hP : va_P D kl [(h, .inr (7, [.ref sl, .int 0, .ref zs, .ref ln, .ref ir, .ref tk, .int 0, .int 0, .ref tb, .int 0, .int 0, .int 0, .ref tr, .int 0, .ref fz, .int 0])), (sl, .inl (cI, 1653, .inl (fun _ => 0)))] H := hP
  have hD : va_D A [(h, .inr (7, [.ref sl, .int 0, .ref zs, .ref ln, .ref ir, .ref tk, .int 0, .int 0, .ref tb, .int 0, .int 0, .int 0, .ref tr, .int 0, .ref fz, .int 0])), (sl, .inl (cI, 1653, .inl (fun _ => 0)))] := hD
  obtain rfl : r_1 = 0 := by first | exact hw_1 | exact hw_1.trans (by decide)
  refine lv_if_eq (tgt := 30) hx hb dX8_ahead_5 (by decide) (fun _ => ?_) (fun c9 => absurd (by decide) c9)
  refine lv_ldc (v := (-1000001)) hx hb hown (hts (.constant RX8 48 (-1000001)) (List.mem_of_getElem? (i := 2) rfl)) dX8_ahead_30 ?_
  exact wr_i (v := (-1000001)) hx hb hr hlocks hS () (by rfl) (hP.sub [] rfl) (hD.sub [] (by decide) rfl) dX8_ahead_32
set_option maxHeartbeats 4000000 in
set_option maxRecDepth 100000 in
theorem km_cold (l : Launch) (D : va_G) (cI cB cQ : ClassId) (sz : Nat) (h : Nat) (sl : Nat) (zs : Nat) (ln : Nat) (ir : Nat) (tk : Nat) (tb : Nat) (tr : Nat) (fz : Nat) (p0 : Int32) (p1 : Int32) : mi l yX8_cold wsX8_cold ({ frames := 0, cells := 0, slots := 0, locals := 0 }) D cI cB cQ [.ref h, .int p0, .int p1] sz [(h, .inr (7, [.ref sl, .int 0, .ref zs, .ref ln, .ref ir, .ref tk, .int 0, .int 0, .ref tb, .int 0, .int 0, .int 0, .ref tr, .int 0, .ref fz, .int 0])), (sl, .inl (cI, 1653, .inl (fun _ => 0)))] (fun (r : Int32) (_u : Unit) => r = (-1000002)) (fun _ => []) 0 0 := by
  refine wm_i (cc := cX8_cold) (maxL := 3) (ret := (some .int)) (by decide) rfl (Nat.le_of_ble_eq_true rfl) ?_
  intro p e s m below meth c A ls hx hb hr hml hown hts hlocks hin hP hK hD hN hA hl hS
  have hown : s.vm.findClass RX8 = some m.cls := hown
  have hl : lv_has ls 3 [(0, .ref h), (1, .int p0), (2, .int p1)] := hl
  change W p l e ({ frames := 0, cells := 0, slots := 0, locals := 0 }) s m ([.ref h, .int p0, .int p1] : List Value).toArray below meth c s.heap [] 0 0 (MQ below (va_Qi (fun (r : Int32) (_u : Unit) => r = (-1000002)) (fun u t => wb D A ((fun _ => []) u) t) A) ([.ref h, .int p0, .int p1] : List Value).toArray s 0 0 A) (F0 m 0 ls [])
  refine lv_aload_n hx hb dX8_cold_0 rfl (lv_at hl 0 rfl) ?_
  refine va_get (D := D) (ci := 7) (v := .ref sl) (C := RX8) (T := TX8) (N := 16) hx hb hts (fun _ h => List.mem_cons_of_mem _ (List.mem_append_right _ h)) hown hK hP 0 rfl rfl 0 (by decide) (hts (.fieldLink RX8 7 "WinterWalkModel" "slot" "[I") (List.mem_of_getElem? (i := 1) rfl)) (fun _ h9 => h9) rfl dX8_cold_1 ?_
  refine lv_iconst (v := 1) hx hb dX8_cold_4 (by decide) ?_
  refine va_iald hx hb hK hP 1 0 rfl rfl (zi_in (by decide) (by decide)) dX8_cold_5 ?_
  refine lv_topi (fun x_1 ex_1 => ?_)
  obtain rfl : x_1 = 0 := ex_1
  refine lv_if_ne (tgt := 12) hx hb dX8_cold_6 (by decide) (fun c9 => absurd (by decide) c9) (fun _ => ?_)
  refine lv_ldc (v := (-1000002)) hx hb hown (hts (.constant RX8 121 (-1000002)) (List.mem_of_getElem? (i := 2) rfl)) dX8_cold_9 ?_
  exact wr_i (v := (-1000002)) hx hb hr hlocks hS () (by rfl) (hP.sub [] rfl) (hD.sub [] (by decide) rfl) dX8_cold_11
set_option maxHeartbeats 4000000 in
set_option maxRecDepth 100000 in
theorem km_nights (l : Launch) (D : va_G) (cI cB cQ : ClassId) (sz : Nat) (h : Nat) (sl : Nat) (zs : Nat) (ln : Nat) (ir : Nat) (tk : Nat) (tb : Nat) (tr : Nat) (fz : Nat) (p0 : Int32) (p1 : Int32) : mi l yX8_nights wsX8_nights ({ frames := 2, cells := 0, slots := 0, locals := 46 }) D cI cB cQ [.ref h, .int p0, .int p1] sz [(h, .inr (7, [.ref sl, .int 0, .ref zs, .ref ln, .ref ir, .ref tk, .int 0, .int 0, .ref tb, .int 0, .int 0, .int 0, .ref tr, .int 0, .ref fz, .int 0])), (sl, .inl (cI, 1653, .inl (fun _ => 0)))] (fun (r : Int32) (_u : Unit) => r = (-1000001)) (fun _ => []) 0 0 := by
  refine wm_i (cc := cX8_nights) (maxL := 3) (ret := (some .int)) (by decide) rfl (Nat.le_of_ble_eq_true rfl) ?_
  intro p e s m below meth c A ls hx hb hr hml hown hts hlocks hin hP hK hD hN hA hl hS
  have hown : s.vm.findClass RX8 = some m.cls := hown
  have hl : lv_has ls 3 [(0, .ref h), (1, .int p0), (2, .int p1)] := hl
  change W p l e ({ frames := 2, cells := 0, slots := 0, locals := 46 }) s m ([.ref h, .int p0, .int p1] : List Value).toArray below meth c s.heap [] 0 0 (MQ below (va_Qi (fun (r : Int32) (_u : Unit) => r = (-1000001)) (fun u t => wb D A ((fun _ => []) u) t) A) ([.ref h, .int p0, .int p1] : List Value).toArray s 0 0 A) (F0 m 0 ls [])
  refine lv_aload_n hx hb dX8_nights_0 rfl (lv_at hl 0 rfl) ?_
  refine lv_iload_n hx hb dX8_nights_1 rfl (lv_at hl 1 rfl) ?_
  have k_1 := (k_isVT l D cI cB cQ s.heap.size h sl zs ln ir tk tb tr fz p0)
  refine wc_i (WC := [(h, .inr (7, [.ref sl, .int 0, .ref zs, .ref ln, .ref ir, .ref tk, .int 0, .int 0, .ref tb, .int 0, .int 0, .int 0, .ref tr, .int 0, .ref fz, .int 0])), (sl, .inl (cI, 1653, .inl (fun _ => 0)))]) (WR := []) (va_runV (As := [.int p0]) (rest := []) ⟨hx, hb, hml, hown, hts⟩ k_1 (cwV 1 hts gX8_nights_X8_isVillageThere rfl rfl rfl (by decide +kernel) ⟨Nat.le_of_ble_eq_true rfl, Nat.le_of_ble_eq_true rfl⟩) (wp_V hP hK hD hN [0, 1] (by decide) rfl (ci := 7) rfl rfl) rfl rfl hl.1 rfl (lv_room (Nat.le_of_ble_eq_true rfl)) dX8_nights_2 ⟨Nat.le_of_ble_eq_true rfl, Nat.le_of_ble_eq_true rfl⟩) hP hD hS hA [0, 1] [] rfl rfl (by decide) (by decide) (fun r_1 u_1 H locs hw_1 hP hD hS => ?_)
  have hP : va_P D kl [(h, .inr (7, [.ref sl, .int 0, .ref zs, .ref ln, .ref ir, .ref tk, .int 0, .int 0, .ref tb, .int 0, .int 0, .int 0, .ref tr, .int 0, .ref fz, .int 0])), (sl, .inl (cI, 1653, .inl (fun _ => 0)))] H := hP
  have hD : va_D A [(h, .inr (7, [.ref sl, .int 0, .ref zs, .ref ln, .ref ir, .ref tk, .int 0, .int 0, .ref tb, .int 0, .int 0, .int 0, .ref tr, .int 0, .ref fz, .int 0])), (sl, .inl (cI, 1653, .inl (fun _ => 0)))] := hD
  obtain rfl : r_1 = 0 := by first | exact hw_1 | exact hw_1.trans (by decide)
  refine lv_if_eq (tgt := 20) hx hb dX8_nights_5 (by decide) (fun _ => ?_) (fun c9 => absurd (by decide) c9)
  refine lv_ldc (v := (-1000001)) hx hb hown (hts (.constant RX8 48 (-1000001)) (List.mem_of_getElem? (i := 2) rfl)) dX8_nights_20 ?_
  exact wr_i (v := (-1000001)) hx hb hr hlocks hS () (by rfl) (hP.sub [] rfl) (hD.sub [] (by decide) rfl) dX8_nights_22
set_option maxHeartbeats 4000000 in
set_option maxRecDepth 100000 in
theorem km_freezes (l : Launch) (D : va_G) (cI cB cQ : ClassId) (sz : Nat) (h : Nat) (sl : Nat) (zs : Nat) (ln : Nat) (ir : Nat) (tk : Nat) (tb : Nat) (tr : Nat) (fz : Nat) (p0 : Int32) (p1 : Int32) : mi l yX8_freezes wsX8_freezes ({ frames := 2, cells := 0, slots := 0, locals := 46 }) D cI cB cQ [.ref h, .int p0, .int p1] sz [(h, .inr (7, [.ref sl, .int 0, .ref zs, .ref ln, .ref ir, .ref tk, .int 0, .int 0, .ref tb, .int 0, .int 0, .int 0, .ref tr, .int 0, .ref fz, .int 0])), (sl, .inl (cI, 1653, .inl (fun _ => 0)))] (fun (r : Int32) (_u : Unit) => r = (-1000001)) (fun _ => []) 0 0 := by
  refine wm_i (cc := cX8_freezes) (maxL := 3) (ret := (some .int)) (by decide) rfl (Nat.le_of_ble_eq_true rfl) ?_
  intro p e s m below meth c A ls hx hb hr hml hown hts hlocks hin hP hK hD hN hA hl hS
  have hown : s.vm.findClass RX8 = some m.cls := hown
  have hl : lv_has ls 3 [(0, .ref h), (1, .int p0), (2, .int p1)] := hl
  change W p l e ({ frames := 2, cells := 0, slots := 0, locals := 46 }) s m ([.ref h, .int p0, .int p1] : List Value).toArray below meth c s.heap [] 0 0 (MQ below (va_Qi (fun (r : Int32) (_u : Unit) => r = (-1000001)) (fun u t => wb D A ((fun _ => []) u) t) A) ([.ref h, .int p0, .int p1] : List Value).toArray s 0 0 A) (F0 m 0 ls [])
  refine lv_aload_n hx hb dX8_freezes_0 rfl (lv_at hl 0 rfl) ?_
  refine lv_iload_n hx hb dX8_freezes_1 rfl (lv_at hl 1 rfl) ?_
  have k_1 := (k_isVT l D cI cB cQ s.heap.size h sl zs ln ir tk tb tr fz p0)
  refine wc_i (WC := [(h, .inr (7, [.ref sl, .int 0, .ref zs, .ref ln, .ref ir, .ref tk, .int 0, .int 0, .ref tb, .int 0, .int 0, .int 0, .ref tr, .int 0, .ref fz, .int 0])), (sl, .inl (cI, 1653, .inl (fun _ => 0)))]) (WR := []) (va_runV (As := [.int p0]) (rest := []) ⟨hx, hb, hml, hown, hts⟩ k_1 (cwV 1 hts gX8_freezes_X8_isVillageThere rfl rfl rfl (by decide +kernel) ⟨Nat.le_of_ble_eq_true rfl, Nat.le_of_ble_eq_true rfl⟩) (wp_V hP hK hD hN [0, 1] (by decide) rfl (ci := 7) rfl rfl) rfl rfl hl.1 rfl (lv_room (Nat.le_of_ble_eq_true rfl)) dX8_freezes_2 ⟨Nat.le_of_ble_eq_true rfl, Nat.le_of_ble_eq_true rfl⟩) hP hD hS hA [0, 1] [] rfl rfl (by decide) (by decide) (fun r_1 u_1 H locs hw_1 hP hD hS => ?_)
  have hP : va_P D kl [(h, .inr (7, [.ref sl, .int 0, .ref zs, .ref ln, .ref ir, .ref tk, .int 0, .int 0, .ref tb, .int 0, .int 0, .int 0, .ref tr, .int 0, .ref fz, .int 0])), (sl, .inl (cI, 1653, .inl (fun _ => 0)))] H := hP
  have hD : va_D A [(h, .inr (7, [.ref sl, .int 0, .ref zs, .ref ln, .ref ir, .ref tk, .int 0, .int 0, .ref tb, .int 0, .int 0, .int 0, .ref tr, .int 0, .ref fz, .int 0])), (sl, .inl (cI, 1653, .inl (fun _ => 0)))] := hD
  obtain rfl : r_1 = 0 := by first | exact hw_1 | exact hw_1.trans (by decide)
  refine lv_if_eq (tgt := 29) hx hb dX8_freezes_5 (by decide) (fun _ => ?_) (fun c9 => absurd (by decide) c9)
  refine lv_ldc (v := (-1000001)) hx hb hown (hts (.constant RX8 48 (-1000001)) (List.mem_of_getElem? (i := 2) rfl)) dX8_freezes_29 ?_
  exact wr_i (v := (-1000001)) hx hb hr hlocks hS () (by rfl) (hP.sub [] rfl) (hD.sub [] (by decide) rfl) dX8_freezes_31
set_option maxHeartbeats 4000000 in
set_option maxRecDepth 100000 in
theorem km_warn (l : Launch) (D : va_G) (cI cB cQ : ClassId) (sz : Nat) (h : Nat) (sl : Nat) (zs : Nat) (ln : Nat) (ir : Nat) (tk : Nat) (tb : Nat) (tr : Nat) (fz : Nat) (p0 : Int32) : mi l yX8_warn wsX8_warn ({ frames := 0, cells := 0, slots := 0, locals := 0 }) D cI cB cQ [.ref h, .int p0] sz [(h, .inr (7, [.ref sl, .int 0, .ref zs, .ref ln, .ref ir, .ref tk, .int 0, .int 0, .ref tb, .int 0, .int 0, .int 0, .ref tr, .int 0, .ref fz, .int 0])), (sl, .inl (cI, 1653, .inl (fun _ => 0)))] (fun (r : Int32) (_u : Unit) => r = (-1000002)) (fun _ => []) 0 0 := by
  refine wm_i (cc := cX8_warn) (maxL := 6) (ret := (some .int)) (by decide) rfl (Nat.le_of_ble_eq_true rfl) ?_
  intro p e s m below meth c A ls hx hb hr hml hown hts hlocks hin hP hK hD hN hA hl hS
  have hown : s.vm.findClass RX8 = some m.cls := hown
  have hl : lv_has ls 6 [(0, .ref h), (1, .int p0)] := hl
  change W p l e ({ frames := 0, cells := 0, slots := 0, locals := 0 }) s m ([.ref h, .int p0] : List Value).toArray below meth c s.heap [] 0 0 (MQ below (va_Qi (fun (r : Int32) (_u : Unit) => r = (-1000002)) (fun u t => wb D A ((fun _ => []) u) t) A) ([.ref h, .int p0] : List Value).toArray s 0 0 A) (F0 m 0 ls [])
  refine lv_aload_n hx hb dX8_warn_0 rfl (lv_at hl 0 rfl) ?_
  refine va_get (D := D) (ci := 7) (v := .ref sl) (C := RX8) (T := TX8) (N := 16) hx hb hts (fun _ h => List.mem_cons_of_mem _ (List.mem_append_right _ h)) hown hK hP 0 rfl rfl 0 (by decide) (hts (.fieldLink RX8 7 "WinterWalkModel" "slot" "[I") (List.mem_of_getElem? (i := 1) rfl)) (fun _ h9 => h9) rfl dX8_warn_1 ?_
  refine lv_iconst (v := 1) hx hb dX8_warn_4 (by decide) ?_
  refine va_iald hx hb hK hP 1 0 rfl rfl (zi_in (by decide) (by decide)) dX8_warn_5 ?_
  refine lv_topi (fun x_1 ex_1 => ?_)
  obtain rfl : x_1 = 0 := ex_1
  refine lv_if_ne (tgt := 12) hx hb dX8_warn_6 (by decide) (fun c9 => absurd (by decide) c9) (fun _ => ?_)
  refine lv_ldc (v := (-1000002)) hx hb hown (hts (.constant RX8 121 (-1000002)) (List.mem_of_getElem? (i := 2) rfl)) dX8_warn_9 ?_
  exact wr_i (v := (-1000002)) hx hb hr hlocks hS () (by rfl) (hP.sub [] rfl) (hD.sub [] (by decide) rfl) dX8_warn_11
set_option maxHeartbeats 4000000 in
set_option maxRecDepth 100000 in
theorem km_lure (l : Launch) (D : va_G) (cI cB cQ : ClassId) (sz : Nat) (h : Nat) (sl : Nat) (zs : Nat) (ln : Nat) (ir : Nat) (tk : Nat) (tb : Nat) (tr : Nat) (fz : Nat) (p0 : Int32) (p1 : Int32) : mi l yX8_lure wsX8_lure ({ frames := 2, cells := 0, slots := 0, locals := 46 }) D cI cB cQ [.ref h, .int p0, .int p1] sz [(h, .inr (7, [.ref sl, .int 0, .ref zs, .ref ln, .ref ir, .ref tk, .int 0, .int 0, .ref tb, .int 0, .int 0, .int 0, .ref tr, .int 0, .ref fz, .int 0])), (sl, .inl (cI, 1653, .inl (fun _ => 0)))] (fun (r : Int32) (_u : Unit) => r = (-1000001)) (fun _ => []) 0 0 := by
  refine wm_i (cc := cX8_lure) (maxL := 4) (ret := (some .int)) (by decide) rfl (Nat.le_of_ble_eq_true rfl) ?_
  intro p e s m below meth c A ls hx hb hr hml hown hts hlocks hin hP hK hD hN hA hl hS
  have hown : s.vm.findClass RX8 = some m.cls := hown
  have hl : lv_has ls 4 [(0, .ref h), (1, .int p0), (2, .int p1)] := hl
  change W p l e ({ frames := 2, cells := 0, slots := 0, locals := 46 }) s m ([.ref h, .int p0, .int p1] : List Value).toArray below meth c s.heap [] 0 0 (MQ below (va_Qi (fun (r : Int32) (_u : Unit) => r = (-1000001)) (fun u t => wb D A ((fun _ => []) u) t) A) ([.ref h, .int p0, .int p1] : List Value).toArray s 0 0 A) (F0 m 0 ls [])
  refine lv_aload_n hx hb dX8_lure_0 rfl (lv_at hl 0 rfl) ?_
  refine lv_iload_n hx hb dX8_lure_1 rfl (lv_at hl 1 rfl) ?_
  have k_1 := (k_isVT l D cI cB cQ s.heap.size h sl zs ln ir tk tb tr fz p0)
  refine wc_i (WC := [(h, .inr (7, [.ref sl, .int 0, .ref zs, .ref ln, .ref ir, .ref tk, .int 0, .int 0, .ref tb, .int 0, .int 0, .int 0, .ref tr, .int 0, .ref fz, .int 0])), (sl, .inl (cI, 1653, .inl (fun _ => 0)))]) (WR := []) (va_runV (As := [.int p0]) (rest := []) ⟨hx, hb, hml, hown, hts⟩ k_1 (cwV 1 hts gX8_lure_X8_isVillageThere rfl rfl rfl (by decide +kernel) ⟨Nat.le_of_ble_eq_true rfl, Nat.le_of_ble_eq_true rfl⟩) (wp_V hP hK hD hN [0, 1] (by decide) rfl (ci := 7) rfl rfl) rfl rfl hl.1 rfl (lv_room (Nat.le_of_ble_eq_true rfl)) dX8_lure_2 ⟨Nat.le_of_ble_eq_true rfl, Nat.le_of_ble_eq_true rfl⟩) hP hD hS hA [0, 1] [] rfl rfl (by decide) (by decide) (fun r_1 u_1 H locs hw_1 hP hD hS => ?_)
  have hP : va_P D kl [(h, .inr (7, [.ref sl, .int 0, .ref zs, .ref ln, .ref ir, .ref tk, .int 0, .int 0, .ref tb, .int 0, .int 0, .int 0, .ref tr, .int 0, .ref fz, .int 0])), (sl, .inl (cI, 1653, .inl (fun _ => 0)))] H := hP
  have hD : va_D A [(h, .inr (7, [.ref sl, .int 0, .ref zs, .ref ln, .ref ir, .ref tk, .int 0, .int 0, .ref tb, .int 0, .int 0, .int 0, .ref tr, .int 0, .ref fz, .int 0])), (sl, .inl (cI, 1653, .inl (fun _ => 0)))] := hD
  obtain rfl : r_1 = 0 := by first | exact hw_1 | exact hw_1.trans (by decide)
  refine lv_if_eq (tgt := 20) hx hb dX8_lure_5 (by decide) (fun _ => ?_) (fun c9 => absurd (by decide) c9)
  refine lv_ldc (v := (-1000001)) hx hb hown (hts (.constant RX8 48 (-1000001)) (List.mem_of_getElem? (i := 2) rfl)) dX8_lure_20 ?_
  exact wr_i (v := (-1000001)) hx hb hr hlocks hS () (by rfl) (hP.sub [] rfl) (hD.sub [] (by decide) rfl) dX8_lure_22
set_option maxHeartbeats 4000000 in
set_option maxRecDepth 100000 in
theorem km_keepsAway (l : Launch) (D : va_G) (cI cB cQ : ClassId) (sz : Nat) (h : Nat) (sl : Nat) (zs : Nat) (ln : Nat) (ir : Nat) (tk : Nat) (tb : Nat) (tr : Nat) (fz : Nat) (p0 : Int32) (p1 : Int32) (p2 : Int32) : mi l yX8_keepsAway wsX8_keepsAway ({ frames := 2, cells := 0, slots := 0, locals := 46 }) D cI cB cQ [.ref h, .int p0, .int p1, .int p2] sz [(h, .inr (7, [.ref sl, .int 0, .ref zs, .ref ln, .ref ir, .ref tk, .int 0, .int 0, .ref tb, .int 0, .int 0, .int 0, .ref tr, .int 0, .ref fz, .int 0])), (sl, .inl (cI, 1653, .inl (fun _ => 0)))] (fun (r : Int32) (_u : Unit) => r = (-1000001)) (fun _ => []) 0 0 := by
  refine wm_i (cc := cX8_keepsAway) (maxL := 6) (ret := (some .int)) (by decide) rfl (Nat.le_of_ble_eq_true rfl) ?_
  intro p e s m below meth c A ls hx hb hr hml hown hts hlocks hin hP hK hD hN hA hl hS
  have hown : s.vm.findClass RX8 = some m.cls := hown
  have hl : lv_has ls 6 [(0, .ref h), (1, .int p0), (2, .int p1), (3, .int p2)] := hl
  change W p l e ({ frames := 2, cells := 0, slots := 0, locals := 46 }) s m ([.ref h, .int p0, .int p1, .int p2] : List Value).toArray below meth c s.heap [] 0 0 (MQ below (va_Qi (fun (r : Int32) (_u : Unit) => r = (-1000001)) (fun u t => wb D A ((fun _ => []) u) t) A) ([.ref h, .int p0, .int p1, .int p2] : List Value).toArray s 0 0 A) (F0 m 0 ls [])
  refine lv_aload_n hx hb dX8_keepsAway_0 rfl (lv_at hl 0 rfl) ?_
  refine lv_iload_n hx hb dX8_keepsAway_1 rfl (lv_at hl 1 rfl) ?_
  have k_1 := (k_isVT l D cI cB cQ s.heap.size h sl zs ln ir tk tb tr fz p0)
  refine wc_i (WC := [(h, .inr (7, [.ref sl, .int 0, .ref zs, .ref ln, .ref ir, .ref tk, .int 0, .int 0, .ref tb, .int 0, .int 0, .int 0, .ref tr, .int 0, .ref fz, .int 0])), (sl, .inl (cI, 1653, .inl (fun _ => 0)))]) (WR := []) (va_runV (As := [.int p0]) (rest := []) ⟨hx, hb, hml, hown, hts⟩ k_1 (cwV 1 hts gX8_keepsAway_X8_isVillageThere rfl rfl rfl (by decide +kernel) ⟨Nat.le_of_ble_eq_true rfl, Nat.le_of_ble_eq_true rfl⟩) (wp_V hP hK hD hN [0, 1] (by decide) rfl (ci := 7) rfl rfl) rfl rfl hl.1 rfl (lv_room (Nat.le_of_ble_eq_true rfl)) dX8_keepsAway_2 ⟨Nat.le_of_ble_eq_true rfl, Nat.le_of_ble_eq_true rfl⟩) hP hD hS hA [0, 1] [] rfl rfl (by decide) (by decide) (fun r_1 u_1 H locs hw_1 hP hD hS => ?_)
  have hP : va_P D kl [(h, .inr (7, [.ref sl, .int 0, .ref zs, .ref ln, .ref ir, .ref tk, .int 0, .int 0, .ref tb, .int 0, .int 0, .int 0, .ref tr, .int 0, .ref fz, .int 0])), (sl, .inl (cI, 1653, .inl (fun _ => 0)))] H := hP
  have hD : va_D A [(h, .inr (7, [.ref sl, .int 0, .ref zs, .ref ln, .ref ir, .ref tk, .int 0, .int 0, .ref tb, .int 0, .int 0, .int 0, .ref tr, .int 0, .ref fz, .int 0])), (sl, .inl (cI, 1653, .inl (fun _ => 0)))] := hD
  obtain rfl : r_1 = 0 := by first | exact hw_1 | exact hw_1.trans (by decide)
  refine lv_if_eq (tgt := 30) hx hb dX8_keepsAway_5 (by decide) (fun _ => ?_) (fun c9 => absurd (by decide) c9)
  refine lv_ldc (v := (-1000001)) hx hb hown (hts (.constant RX8 48 (-1000001)) (List.mem_of_getElem? (i := 2) rfl)) dX8_keepsAway_30 ?_
  exact wr_i (v := (-1000001)) hx hb hr hlocks hS () (by rfl) (hP.sub [] rfl) (hD.sub [] (by decide) rfl) dX8_keepsAway_32
set_option maxHeartbeats 4000000 in
set_option maxRecDepth 100000 in
theorem km_bid (l : Launch) (D : va_G) (cI cB cQ : ClassId) (sz : Nat) (h : Nat) (sl : Nat) (zs : Nat) (ln : Nat) (ir : Nat) (tk : Nat) (tb : Nat) (tr : Nat) (fz : Nat) (p0 : Int32) (p1 : Int32) (p2 : Int32) : mi l yX8_bid wsX8_bid ({ frames := 2, cells := 0, slots := 0, locals := 46 }) D cI cB cQ [.ref h, .int p0, .int p1, .int p2] sz [(h, .inr (7, [.ref sl, .int 0, .ref zs, .ref ln, .ref ir, .ref tk, .int 0, .int 0, .ref tb, .int 0, .int 0, .int 0, .ref tr, .int 0, .ref fz, .int 0])), (sl, .inl (cI, 1653, .inl (fun _ => 0)))] (fun (r : Int32) (_u : Unit) => r = (-1000001)) (fun _ => []) 0 0 := by
  refine wm_i (cc := cX8_bid) (maxL := 8) (ret := (some .int)) (by decide) rfl (Nat.le_of_ble_eq_true rfl) ?_
  intro p e s m below meth c A ls hx hb hr hml hown hts hlocks hin hP hK hD hN hA hl hS
  have hown : s.vm.findClass RX8 = some m.cls := hown
  have hl : lv_has ls 8 [(0, .ref h), (1, .int p0), (2, .int p1), (3, .int p2)] := hl
  change W p l e ({ frames := 2, cells := 0, slots := 0, locals := 46 }) s m ([.ref h, .int p0, .int p1, .int p2] : List Value).toArray below meth c s.heap [] 0 0 (MQ below (va_Qi (fun (r : Int32) (_u : Unit) => r = (-1000001)) (fun u t => wb D A ((fun _ => []) u) t) A) ([.ref h, .int p0, .int p1, .int p2] : List Value).toArray s 0 0 A) (F0 m 0 ls [])
  refine lv_aload_n hx hb dX8_bid_0 rfl (lv_at hl 0 rfl) ?_
  refine lv_iload_n hx hb dX8_bid_1 rfl (lv_at hl 1 rfl) ?_
  have k_1 := (k_isVT l D cI cB cQ s.heap.size h sl zs ln ir tk tb tr fz p0)
  refine wc_i (WC := [(h, .inr (7, [.ref sl, .int 0, .ref zs, .ref ln, .ref ir, .ref tk, .int 0, .int 0, .ref tb, .int 0, .int 0, .int 0, .ref tr, .int 0, .ref fz, .int 0])), (sl, .inl (cI, 1653, .inl (fun _ => 0)))]) (WR := []) (va_runV (As := [.int p0]) (rest := []) ⟨hx, hb, hml, hown, hts⟩ k_1 (cwV 1 hts gX8_bid_X8_isVillageThere rfl rfl rfl (by decide +kernel) ⟨Nat.le_of_ble_eq_true rfl, Nat.le_of_ble_eq_true rfl⟩) (wp_V hP hK hD hN [0, 1] (by decide) rfl (ci := 7) rfl rfl) rfl rfl hl.1 rfl (lv_room (Nat.le_of_ble_eq_true rfl)) dX8_bid_2 ⟨Nat.le_of_ble_eq_true rfl, Nat.le_of_ble_eq_true rfl⟩) hP hD hS hA [0, 1] [] rfl rfl (by decide) (by decide) (fun r_1 u_1 H locs hw_1 hP hD hS => ?_)
  have hP : va_P D kl [(h, .inr (7, [.ref sl, .int 0, .ref zs, .ref ln, .ref ir, .ref tk, .int 0, .int 0, .ref tb, .int 0, .int 0, .int 0, .ref tr, .int 0, .ref fz, .int 0])), (sl, .inl (cI, 1653, .inl (fun _ => 0)))] H := hP
  have hD : va_D A [(h, .inr (7, [.ref sl, .int 0, .ref zs, .ref ln, .ref ir, .ref tk, .int 0, .int 0, .ref tb, .int 0, .int 0, .int 0, .ref tr, .int 0, .ref fz, .int 0])), (sl, .inl (cI, 1653, .inl (fun _ => 0)))] := hD
  obtain rfl : r_1 = 0 := by first | exact hw_1 | exact hw_1.trans (by decide)
  refine lv_if_eq (tgt := 30) hx hb dX8_bid_5 (by decide) (fun _ => ?_) (fun c9 => absurd (by decide) c9)
  refine lv_ldc (v := (-1000001)) hx hb hown (hts (.constant RX8 48 (-1000001)) (List.mem_of_getElem? (i := 2) rfl)) dX8_bid_30 ?_
  exact wr_i (v := (-1000001)) hx hb hr hlocks hS () (by rfl) (hP.sub [] rfl) (hD.sub [] (by decide) rfl) dX8_bid_32
set_option maxHeartbeats 4000000 in
set_option maxRecDepth 100000 in
theorem km_rests (l : Launch) (D : va_G) (cI cB cQ : ClassId) (sz : Nat) (h : Nat) (sl : Nat) (zs : Nat) (ln : Nat) (ir : Nat) (tk : Nat) (tb : Nat) (tr : Nat) (fz : Nat) (p0 : Int32) : mi l yX8_rests wsX8_rests ({ frames := 0, cells := 0, slots := 0, locals := 0 }) D cI cB cQ [.ref h, .int p0] sz [(h, .inr (7, [.ref sl, .int 0, .ref zs, .ref ln, .ref ir, .ref tk, .int 0, .int 0, .ref tb, .int 0, .int 0, .int 0, .ref tr, .int 0, .ref fz, .int 0])), (sl, .inl (cI, 1653, .inl (fun _ => 0)))] (fun (r : Int32) (_u : Unit) => r = (-1000002)) (fun _ => []) 0 0 := by
  refine wm_i (cc := cX8_rests) (maxL := 6) (ret := (some .int)) (by decide) rfl (Nat.le_of_ble_eq_true rfl) ?_
  intro p e s m below meth c A ls hx hb hr hml hown hts hlocks hin hP hK hD hN hA hl hS
  have hown : s.vm.findClass RX8 = some m.cls := hown
  have hl : lv_has ls 6 [(0, .ref h), (1, .int p0)] := hl
  change W p l e ({ frames := 0, cells := 0, slots := 0, locals := 0 }) s m ([.ref h, .int p0] : List Value).toArray below meth c s.heap [] 0 0 (MQ below (va_Qi (fun (r : Int32) (_u : Unit) => r = (-1000002)) (fun u t => wb D A ((fun _ => []) u) t) A) ([.ref h, .int p0] : List Value).toArray s 0 0 A) (F0 m 0 ls [])
  refine lv_aload_n hx hb dX8_rests_0 rfl (lv_at hl 0 rfl) ?_
  refine va_get (D := D) (ci := 7) (v := .ref sl) (C := RX8) (T := TX8) (N := 16) hx hb hts (fun _ h => List.mem_cons_of_mem _ (List.mem_append_right _ h)) hown hK hP 0 rfl rfl 0 (by decide) (hts (.fieldLink RX8 7 "WinterWalkModel" "slot" "[I") (List.mem_of_getElem? (i := 1) rfl)) (fun _ h9 => h9) rfl dX8_rests_1 ?_
  refine lv_iconst (v := 1) hx hb dX8_rests_4 (by decide) ?_
  refine va_iald hx hb hK hP 1 0 rfl rfl (zi_in (by decide) (by decide)) dX8_rests_5 ?_
  refine lv_topi (fun x_1 ex_1 => ?_)
  obtain rfl : x_1 = 0 := ex_1
  refine lv_if_ne (tgt := 12) hx hb dX8_rests_6 (by decide) (fun c9 => absurd (by decide) c9) (fun _ => ?_)
  refine lv_ldc (v := (-1000002)) hx hb hown (hts (.constant RX8 121 (-1000002)) (List.mem_of_getElem? (i := 2) rfl)) dX8_rests_9 ?_
  exact wr_i (v := (-1000002)) hx hb hr hlocks hS () (by rfl) (hP.sub [] rfl) (hD.sub [] (by decide) rfl) dX8_rests_11
set_option maxHeartbeats 4000000 in
set_option maxRecDepth 100000 in
theorem km_fits (l : Launch) (D : va_G) (cI cB cQ : ClassId) (sz : Nat) (h : Nat) (sl : Nat) (zs : Nat) (ln : Nat) (ir : Nat) (tk : Nat) (tb : Nat) (tr : Nat) (fz : Nat) (p0 : Int32) (p1 : Int32) (p2 : Int32) (p3 : Int32) : mi l yX8_fits wsX8_fits ({ frames := 2, cells := 0, slots := 0, locals := 46 }) D cI cB cQ [.ref h, .int p0, .int p1, .int p2, .int p3] sz [(h, .inr (7, [.ref sl, .int 0, .ref zs, .ref ln, .ref ir, .ref tk, .int 0, .int 0, .ref tb, .int 0, .int 0, .int 0, .ref tr, .int 0, .ref fz, .int 0])), (sl, .inl (cI, 1653, .inl (fun _ => 0)))] (fun (r : Int32) (_u : Unit) => r = (-1000001)) (fun _ => []) 0 0 := by
  refine wm_i (cc := cX8_fits) (maxL := 10) (ret := (some .int)) (by decide) rfl (Nat.le_of_ble_eq_true rfl) ?_
  intro p e s m below meth c A ls hx hb hr hml hown hts hlocks hin hP hK hD hN hA hl hS
  have hown : s.vm.findClass RX8 = some m.cls := hown
  have hl : lv_has ls 10 [(0, .ref h), (1, .int p0), (2, .int p1), (3, .int p2), (4, .int p3)] := hl
  change W p l e ({ frames := 2, cells := 0, slots := 0, locals := 46 }) s m ([.ref h, .int p0, .int p1, .int p2, .int p3] : List Value).toArray below meth c s.heap [] 0 0 (MQ below (va_Qi (fun (r : Int32) (_u : Unit) => r = (-1000001)) (fun u t => wb D A ((fun _ => []) u) t) A) ([.ref h, .int p0, .int p1, .int p2, .int p3] : List Value).toArray s 0 0 A) (F0 m 0 ls [])
  refine lv_aload_n hx hb dX8_fits_0 rfl (lv_at hl 0 rfl) ?_
  refine lv_iload_n hx hb dX8_fits_1 rfl (lv_at hl 1 rfl) ?_
  have k_1 := (k_isWT l D cI cB cQ s.heap.size h sl zs ln ir tk tb tr fz p0)
  refine wc_i (WC := [(h, .inr (7, [.ref sl, .int 0, .ref zs, .ref ln, .ref ir, .ref tk, .int 0, .int 0, .ref tb, .int 0, .int 0, .int 0, .ref tr, .int 0, .ref fz, .int 0])), (sl, .inl (cI, 1653, .inl (fun _ => 0)))]) (WR := []) (va_runV (As := [.int p0]) (rest := []) ⟨hx, hb, hml, hown, hts⟩ k_1 (cwV 1 hts gX8_fits_X8_isWalkerThere rfl rfl rfl (by decide +kernel) ⟨Nat.le_of_ble_eq_true rfl, Nat.le_of_ble_eq_true rfl⟩) (wp_V hP hK hD hN [0, 1] (by decide) rfl (ci := 7) rfl rfl) rfl rfl hl.1 rfl (lv_room (Nat.le_of_ble_eq_true rfl)) dX8_fits_2 ⟨Nat.le_of_ble_eq_true rfl, Nat.le_of_ble_eq_true rfl⟩) hP hD hS hA [0, 1] [] rfl rfl (by decide) (by decide) (fun r_1 u_1 H locs hw_1 hP hD hS => ?_)
  have hP : va_P D kl [(h, .inr (7, [.ref sl, .int 0, .ref zs, .ref ln, .ref ir, .ref tk, .int 0, .int 0, .ref tb, .int 0, .int 0, .int 0, .ref tr, .int 0, .ref fz, .int 0])), (sl, .inl (cI, 1653, .inl (fun _ => 0)))] H := hP
  have hD : va_D A [(h, .inr (7, [.ref sl, .int 0, .ref zs, .ref ln, .ref ir, .ref tk, .int 0, .int 0, .ref tb, .int 0, .int 0, .int 0, .ref tr, .int 0, .ref fz, .int 0])), (sl, .inl (cI, 1653, .inl (fun _ => 0)))] := hD
  obtain rfl : r_1 = 0 := by first | exact hw_1 | exact hw_1.trans (by decide)
  refine lv_if_eq (tgt := 33) hx hb dX8_fits_5 (by decide) (fun _ => ?_) (fun c9 => absurd (by decide) c9)
  refine lv_ldc (v := (-1000001)) hx hb hown (hts (.constant RX8 48 (-1000001)) (List.mem_of_getElem? (i := 3) rfl)) dX8_fits_33 ?_
  exact wr_i (v := (-1000001)) hx hb hr hlocks hS () (by rfl) (hP.sub [] rfl) (hD.sub [] (by decide) rfl) dX8_fits_35
set_option maxHeartbeats 4000000 in
set_option maxRecDepth 100000 in
theorem km_round (l : Launch) (D : va_G) (cI cB cQ : ClassId) (sz : Nat) (h : Nat) (sl : Nat) (zs : Nat) (ln : Nat) (ir : Nat) (tk : Nat) (tb : Nat) (tr : Nat) (fz : Nat) (p0 : Int32) : mi l yX8_round wsX8_round ({ frames := 2, cells := 0, slots := 0, locals := 46 }) D cI cB cQ [.ref h, .int p0] sz [(h, .inr (7, [.ref sl, .int 0, .ref zs, .ref ln, .ref ir, .ref tk, .int 0, .int 0, .ref tb, .int 0, .int 0, .int 0, .ref tr, .int 0, .ref fz, .int 0])), (sl, .inl (cI, 1653, .inl (fun _ => 0)))] (fun (r : Int32) (_u : Unit) => r = (-1000001)) (fun _ => []) 0 0 := by
  refine wm_i (cc := cX8_round) (maxL := 4) (ret := (some .int)) (by decide) rfl (Nat.le_of_ble_eq_true rfl) ?_
  intro p e s m below meth c A ls hx hb hr hml hown hts hlocks hin hP hK hD hN hA hl hS
  have hown : s.vm.findClass RX8 = some m.cls := hown
  have hl : lv_has ls 4 [(0, .ref h), (1, .int p0)] := hl
  change W p l e ({ frames := 2, cells := 0, slots := 0, locals := 46 }) s m ([.ref h, .int p0] : List Value).toArray below meth c s.heap [] 0 0 (MQ below (va_Qi (fun (r : Int32) (_u : Unit) => r = (-1000001)) (fun u t => wb D A ((fun _ => []) u) t) A) ([.ref h, .int p0] : List Value).toArray s 0 0 A) (F0 m 0 ls [])
  refine lv_aload_n hx hb dX8_round_0 rfl (lv_at hl 0 rfl) ?_
  refine lv_iload_n hx hb dX8_round_1 rfl (lv_at hl 1 rfl) ?_
  have k_1 := (k_isWT l D cI cB cQ s.heap.size h sl zs ln ir tk tb tr fz p0)
  refine wc_i (WC := [(h, .inr (7, [.ref sl, .int 0, .ref zs, .ref ln, .ref ir, .ref tk, .int 0, .int 0, .ref tb, .int 0, .int 0, .int 0, .ref tr, .int 0, .ref fz, .int 0])), (sl, .inl (cI, 1653, .inl (fun _ => 0)))]) (WR := []) (va_runV (As := [.int p0]) (rest := []) ⟨hx, hb, hml, hown, hts⟩ k_1 (cwV 1 hts gX8_round_X8_isWalkerThere rfl rfl rfl (by decide +kernel) ⟨Nat.le_of_ble_eq_true rfl, Nat.le_of_ble_eq_true rfl⟩) (wp_V hP hK hD hN [0, 1] (by decide) rfl (ci := 7) rfl rfl) rfl rfl hl.1 rfl (lv_room (Nat.le_of_ble_eq_true rfl)) dX8_round_2 ⟨Nat.le_of_ble_eq_true rfl, Nat.le_of_ble_eq_true rfl⟩) hP hD hS hA [0, 1] [] rfl rfl (by decide) (by decide) (fun r_1 u_1 H locs hw_1 hP hD hS => ?_)
  have hP : va_P D kl [(h, .inr (7, [.ref sl, .int 0, .ref zs, .ref ln, .ref ir, .ref tk, .int 0, .int 0, .ref tb, .int 0, .int 0, .int 0, .ref tr, .int 0, .ref fz, .int 0])), (sl, .inl (cI, 1653, .inl (fun _ => 0)))] H := hP
  have hD : va_D A [(h, .inr (7, [.ref sl, .int 0, .ref zs, .ref ln, .ref ir, .ref tk, .int 0, .int 0, .ref tb, .int 0, .int 0, .int 0, .ref tr, .int 0, .ref fz, .int 0])), (sl, .inl (cI, 1653, .inl (fun _ => 0)))] := hD
  obtain rfl : r_1 = 0 := by first | exact hw_1 | exact hw_1.trans (by decide)
  refine lv_if_ne (tgt := 11) hx hb dX8_round_5 (by decide) (fun c9 => absurd (by decide) c9) (fun _ => ?_)
  refine lv_ldc (v := (-1000001)) hx hb hown (hts (.constant RX8 48 (-1000001)) (List.mem_of_getElem? (i := 1) rfl)) dX8_round_8 ?_
  exact wr_i (v := (-1000001)) hx hb hr hlocks hS () (by rfl) (hP.sub [] rfl) (hD.sub [] (by decide) rfl) dX8_round_10
set_option maxHeartbeats 4000000 in
set_option maxRecDepth 100000 in
theorem km_meet (l : Launch) (D : va_G) (cI cB cQ : ClassId) (sz : Nat) (h : Nat) (sl : Nat) (zs : Nat) (ln : Nat) (ir : Nat) (tk : Nat) (tb : Nat) (tr : Nat) (fz : Nat) (p0 : Int32) (p1 : Int32) : mi l yX8_meet wsX8_meet ({ frames := 0, cells := 0, slots := 0, locals := 0 }) D cI cB cQ [.ref h, .int p0, .int p1] sz [(h, .inr (7, [.ref sl, .int 0, .ref zs, .ref ln, .ref ir, .ref tk, .int 0, .int 0, .ref tb, .int 0, .int 0, .int 0, .ref tr, .int 0, .ref fz, .int 0])), (sl, .inl (cI, 1653, .inl (fun _ => 0)))] (fun (r : Int32) (_u : Unit) => r = (-1000002)) (fun _ => []) 0 0 := by
  refine wm_i (cc := cX8_meet) (maxL := 5) (ret := (some .int)) (by decide) rfl (Nat.le_of_ble_eq_true rfl) ?_
  intro p e s m below meth c A ls hx hb hr hml hown hts hlocks hin hP hK hD hN hA hl hS
  have hown : s.vm.findClass RX8 = some m.cls := hown
  have hl : lv_has ls 5 [(0, .ref h), (1, .int p0), (2, .int p1)] := hl
  change W p l e ({ frames := 0, cells := 0, slots := 0, locals := 0 }) s m ([.ref h, .int p0, .int p1] : List Value).toArray below meth c s.heap [] 0 0 (MQ below (va_Qi (fun (r : Int32) (_u : Unit) => r = (-1000002)) (fun u t => wb D A ((fun _ => []) u) t) A) ([.ref h, .int p0, .int p1] : List Value).toArray s 0 0 A) (F0 m 0 ls [])
  refine lv_aload_n hx hb dX8_meet_0 rfl (lv_at hl 0 rfl) ?_
  refine va_get (D := D) (ci := 7) (v := .ref sl) (C := RX8) (T := TX8) (N := 16) hx hb hts (fun _ h => List.mem_cons_of_mem _ (List.mem_append_right _ h)) hown hK hP 0 rfl rfl 0 (by decide) (hts (.fieldLink RX8 7 "WinterWalkModel" "slot" "[I") (List.mem_of_getElem? (i := 1) rfl)) (fun _ h9 => h9) rfl dX8_meet_1 ?_
  refine lv_iconst (v := 1) hx hb dX8_meet_4 (by decide) ?_
  refine va_iald hx hb hK hP 1 0 rfl rfl (zi_in (by decide) (by decide)) dX8_meet_5 ?_
  refine lv_topi (fun x_1 ex_1 => ?_)
  obtain rfl : x_1 = 0 := ex_1
  refine lv_if_ne (tgt := 12) hx hb dX8_meet_6 (by decide) (fun c9 => absurd (by decide) c9) (fun _ => ?_)
  refine lv_ldc (v := (-1000002)) hx hb hown (hts (.constant RX8 121 (-1000002)) (List.mem_of_getElem? (i := 2) rfl)) dX8_meet_9 ?_
  exact wr_i (v := (-1000002)) hx hb hr hlocks hS () (by rfl) (hP.sub [] rfl) (hD.sub [] (by decide) rfl) dX8_meet_11
set_option maxHeartbeats 4000000 in
set_option maxRecDepth 100000 in
theorem km_slept (l : Launch) (D : va_G) (cI cB cQ : ClassId) (sz : Nat) (h : Nat) (sl : Nat) (zs : Nat) (ln : Nat) (ir : Nat) (tk : Nat) (tb : Nat) (tr : Nat) (fz : Nat) (p0 : Int32) (p1 : Int32) (p2 : Int32) (p3 : Int32) (p4 : Int32) : mi l yX8_slept wsX8_slept ({ frames := 2, cells := 0, slots := 0, locals := 46 }) D cI cB cQ [.ref h, .int p0, .int p1, .int p2, .int p3, .int p4] sz [(h, .inr (7, [.ref sl, .int 0, .ref zs, .ref ln, .ref ir, .ref tk, .int 0, .int 0, .ref tb, .int 0, .int 0, .int 0, .ref tr, .int 0, .ref fz, .int 0])), (sl, .inl (cI, 1653, .inl (fun _ => 0)))] (fun (r : Int32) (_u : Unit) => r = (-1000001)) (fun _ => []) 0 0 := by
  refine wm_i (cc := cX8_slept) (maxL := 12) (ret := (some .int)) (by decide) rfl (Nat.le_of_ble_eq_true rfl) ?_
  intro p e s m below meth c A ls hx hb hr hml hown hts hlocks hin hP hK hD hN hA hl hS
  have hown : s.vm.findClass RX8 = some m.cls := hown
  have hl : lv_has ls 12 [(0, .ref h), (1, .int p0), (2, .int p1), (3, .int p2), (4, .int p3), (5, .int p4)] := hl
  change W p l e ({ frames := 2, cells := 0, slots := 0, locals := 46 }) s m ([.ref h, .int p0, .int p1, .int p2, .int p3, .int p4] : List Value).toArray below meth c s.heap [] 0 0 (MQ below (va_Qi (fun (r : Int32) (_u : Unit) => r = (-1000001)) (fun u t => wb D A ((fun _ => []) u) t) A) ([.ref h, .int p0, .int p1, .int p2, .int p3, .int p4] : List Value).toArray s 0 0 A) (F0 m 0 ls [])
  refine lv_aload_n hx hb dX8_slept_0 rfl (lv_at hl 0 rfl) ?_
  refine lv_iload_n hx hb dX8_slept_1 rfl (lv_at hl 1 rfl) ?_
  have k_1 := (k_isWT l D cI cB cQ s.heap.size h sl zs ln ir tk tb tr fz p0)
  refine wc_i (WC := [(h, .inr (7, [.ref sl, .int 0, .ref zs, .ref ln, .ref ir, .ref tk, .int 0, .int 0, .ref tb, .int 0, .int 0, .int 0, .ref tr, .int 0, .ref fz, .int 0])), (sl, .inl (cI, 1653, .inl (fun _ => 0)))]) (WR := []) (va_runV (As := [.int p0]) (rest := []) ⟨hx, hb, hml, hown, hts⟩ k_1 (cwV 1 hts gX8_slept_X8_isWalkerThere rfl rfl rfl (by decide +kernel) ⟨Nat.le_of_ble_eq_true rfl, Nat.le_of_ble_eq_true rfl⟩) (wp_V hP hK hD hN [0, 1] (by decide) rfl (ci := 7) rfl rfl) rfl rfl hl.1 rfl (lv_room (Nat.le_of_ble_eq_true rfl)) dX8_slept_2 ⟨Nat.le_of_ble_eq_true rfl, Nat.le_of_ble_eq_true rfl⟩) hP hD hS hA [0, 1] [] rfl rfl (by decide) (by decide) (fun r_1 u_1 H locs hw_1 hP hD hS => ?_)
  have hP : va_P D kl [(h, .inr (7, [.ref sl, .int 0, .ref zs, .ref ln, .ref ir, .ref tk, .int 0, .int 0, .ref tb, .int 0, .int 0, .int 0, .ref tr, .int 0, .ref fz, .int 0])), (sl, .inl (cI, 1653, .inl (fun _ => 0)))] H := hP
  have hD : va_D A [(h, .inr (7, [.ref sl, .int 0, .ref zs, .ref ln, .ref ir, .ref tk, .int 0, .int 0, .ref tb, .int 0, .int 0, .int 0, .ref tr, .int 0, .ref fz, .int 0])), (sl, .inl (cI, 1653, .inl (fun _ => 0)))] := hD
  obtain rfl : r_1 = 0 := by first | exact hw_1 | exact hw_1.trans (by decide)
  refine lv_if_eq (tgt := 44) hx hb dX8_slept_5 (by decide) (fun _ => ?_) (fun c9 => absurd (by decide) c9)
  refine lv_ldc (v := (-1000001)) hx hb hown (hts (.constant RX8 48 (-1000001)) (List.mem_of_getElem? (i := 3) rfl)) dX8_slept_44 ?_
  exact wr_i (v := (-1000001)) hx hb hr hlocks hS () (by rfl) (hP.sub [] rfl) (hD.sub [] (by decide) rfl) dX8_slept_46
set_option maxHeartbeats 4000000 in
set_option maxRecDepth 100000 in
theorem km_late (l : Launch) (D : va_G) (cI cB cQ : ClassId) (sz : Nat) (h : Nat) (sl : Nat) (zs : Nat) (ln : Nat) (ir : Nat) (tk : Nat) (tb : Nat) (tr : Nat) (fz : Nat) (p0 : Int32) (p1 : Int32) (p2 : Int32) (p3 : Int32) (p4 : Int32) : ml l yX8_late wsX8_late ({ frames := 2, cells := 0, slots := 0, locals := 46 }) D cI cB cQ [.ref h, .int p0, .int p1, .int p2, .int p3, .int p4] sz [(h, .inr (7, [.ref sl, .int 0, .ref zs, .ref ln, .ref ir, .ref tk, .int 0, .int 0, .ref tb, .int 0, .int 0, .int 0, .ref tr, .int 0, .ref fz, .int 0])), (sl, .inl (cI, 1653, .inl (fun _ => 0)))] (fun (r : Int64) (_u : Unit) => r = (-1000001)) (fun _ => []) 0 0 := by
  refine wm_l (cc := cX8_late) (maxL := 18) (ret := (some .long)) (by decide) rfl (Nat.le_of_ble_eq_true rfl) ?_
  intro p e s m below meth c A ls hx hb hr hml hown hts hlocks hin hP hK hD hN hA hl hS
  have hown : s.vm.findClass RX8 = some m.cls := hown
  have hl : lv_has ls 18 [(0, .ref h), (1, .int p0), (2, .int p1), (3, .int p2), (4, .int p3), (5, .int p4)] := hl
  change W p l e ({ frames := 2, cells := 0, slots := 0, locals := 46 }) s m ([.ref h, .int p0, .int p1, .int p2, .int p3, .int p4] : List Value).toArray below meth c s.heap [] 0 0 (MQ below (va_Ql (fun (r : Int64) (_u : Unit) => r = (-1000001)) (fun u t => wb D A ((fun _ => []) u) t) A) ([.ref h, .int p0, .int p1, .int p2, .int p3, .int p4] : List Value).toArray s 0 0 A) (F0 m 0 ls [])
  refine lv_aload_n hx hb dX8_late_0 rfl (lv_at hl 0 rfl) ?_
  refine lv_iload_n hx hb dX8_late_1 rfl (lv_at hl 1 rfl) ?_
  have k_1 := (k_isWT l D cI cB cQ s.heap.size h sl zs ln ir tk tb tr fz p0)
  refine wc_i (WC := [(h, .inr (7, [.ref sl, .int 0, .ref zs, .ref ln, .ref ir, .ref tk, .int 0, .int 0, .ref tb, .int 0, .int 0, .int 0, .ref tr, .int 0, .ref fz, .int 0])), (sl, .inl (cI, 1653, .inl (fun _ => 0)))]) (WR := []) (va_runV (As := [.int p0]) (rest := []) ⟨hx, hb, hml, hown, hts⟩ k_1 (cwV 1 hts gX8_late_X8_isWalkerThere rfl rfl rfl (by decide +kernel) ⟨Nat.le_of_ble_eq_true rfl, Nat.le_of_ble_eq_true rfl⟩) (wp_V hP hK hD hN [0, 1] (by decide) rfl (ci := 7) rfl rfl) rfl rfl hl.1 rfl (lv_room (Nat.le_of_ble_eq_true rfl)) dX8_late_2 ⟨Nat.le_of_ble_eq_true rfl, Nat.le_of_ble_eq_true rfl⟩) hP hD hS hA [0, 1] [] rfl rfl (by decide) (by decide) (fun r_1 u_1 H locs hw_1 hP hD hS => ?_)
  have hP : va_P D kl [(h, .inr (7, [.ref sl, .int 0, .ref zs, .ref ln, .ref ir, .ref tk, .int 0, .int 0, .ref tb, .int 0, .int 0, .int 0, .ref tr, .int 0, .ref fz, .int 0])), (sl, .inl (cI, 1653, .inl (fun _ => 0)))] H := hP
  have hD : va_D A [(h, .inr (7, [.ref sl, .int 0, .ref zs, .ref ln, .ref ir, .ref tk, .int 0, .int 0, .ref tb, .int 0, .int 0, .int 0, .ref tr, .int 0, .ref fz, .int 0])), (sl, .inl (cI, 1653, .inl (fun _ => 0)))] := hD
  obtain rfl : r_1 = 0 := by first | exact hw_1 | exact hw_1.trans (by decide)
  refine lv_if_eq (tgt := 52) hx hb dX8_late_5 (by decide) (fun _ => ?_) (fun c9 => absurd (by decide) c9)
  refine lv_ldc2 (v := (-1000001)) hx hb hown (hts (.constantLong RX8 197 (-1000001)) (List.mem_of_getElem? (i := 3) rfl)) dX8_late_52 ?_
  exact wr_l (v := (-1000001)) hx hb hr hlocks hS () (by rfl) (hP.sub [] rfl) (hD.sub [] (by decide) rfl) dX8_late_55
set_option maxHeartbeats 4000000 in
set_option maxRecDepth 100000 in
theorem km_year (l : Launch) (D : va_G) (cI cB cQ : ClassId) (sz : Nat) (h : Nat) (sl : Nat) (zs : Nat) (ln : Nat) (ir : Nat) (tk : Nat) (tb : Nat) (tr : Nat) (fz : Nat) (p0 : Int32) (p1 : Int32) (p2 : Int32) : mi l yX8_year wsX8_year ({ frames := 0, cells := 0, slots := 0, locals := 0 }) D cI cB cQ [.ref h, .int p0, .int p1, .int p2] sz [(h, .inr (7, [.ref sl, .int 0, .ref zs, .ref ln, .ref ir, .ref tk, .int 0, .int 0, .ref tb, .int 0, .int 0, .int 0, .ref tr, .int 0, .ref fz, .int 0])), (sl, .inl (cI, 1653, .inl (fun _ => 0)))] (fun (r : Int32) (_u : Unit) => r = (-1000002)) (fun _ => []) 0 0 := by
  refine wm_i (cc := cX8_year) (maxL := 8) (ret := (some .int)) (by decide) rfl (Nat.le_of_ble_eq_true rfl) ?_
  intro p e s m below meth c A ls hx hb hr hml hown hts hlocks hin hP hK hD hN hA hl hS
  have hown : s.vm.findClass RX8 = some m.cls := hown
  have hl : lv_has ls 8 [(0, .ref h), (1, .int p0), (2, .int p1), (3, .int p2)] := hl
  change W p l e ({ frames := 0, cells := 0, slots := 0, locals := 0 }) s m ([.ref h, .int p0, .int p1, .int p2] : List Value).toArray below meth c s.heap [] 0 0 (MQ below (va_Qi (fun (r : Int32) (_u : Unit) => r = (-1000002)) (fun u t => wb D A ((fun _ => []) u) t) A) ([.ref h, .int p0, .int p1, .int p2] : List Value).toArray s 0 0 A) (F0 m 0 ls [])
  refine lv_aload_n hx hb dX8_year_0 rfl (lv_at hl 0 rfl) ?_
  refine va_get (D := D) (ci := 7) (v := .ref sl) (C := RX8) (T := TX8) (N := 16) hx hb hts (fun _ h => List.mem_cons_of_mem _ (List.mem_append_right _ h)) hown hK hP 0 rfl rfl 0 (by decide) (hts (.fieldLink RX8 7 "WinterWalkModel" "slot" "[I") (List.mem_of_getElem? (i := 1) rfl)) (fun _ h9 => h9) rfl dX8_year_1 ?_
  refine lv_iconst (v := 1) hx hb dX8_year_4 (by decide) ?_
  refine va_iald hx hb hK hP 1 0 rfl rfl (zi_in (by decide) (by decide)) dX8_year_5 ?_
  refine lv_topi (fun x_1 ex_1 => ?_)
  obtain rfl : x_1 = 0 := ex_1
  refine lv_if_ne (tgt := 12) hx hb dX8_year_6 (by decide) (fun c9 => absurd (by decide) c9) (fun _ => ?_)
  refine lv_ldc (v := (-1000002)) hx hb hown (hts (.constant RX8 121 (-1000002)) (List.mem_of_getElem? (i := 2) rfl)) dX8_year_9 ?_
  exact wr_i (v := (-1000002)) hx hb hr hlocks hS () (by rfl) (hP.sub [] rfl) (hD.sub [] (by decide) rfl) dX8_year_11
set_option maxHeartbeats 4000000 in
set_option maxRecDepth 100000 in
theorem km_image (l : Launch) (D : va_G) (cI cB cQ : ClassId) (sz : Nat) (h : Nat) (sl : Nat) (zs : Nat) (ln : Nat) (ir : Nat) (tk : Nat) (tb : Nat) (tr : Nat) (fz : Nat) (p0 : Int32) : mi l yX8_image wsX8_image ({ frames := 1, cells := 0, slots := 0, locals := 25 }) D cI cB cQ [.ref h, .int p0] sz [(h, .inr (7, [.ref sl, .int 0, .ref zs, .ref ln, .ref ir, .ref tk, .int 0, .int 0, .ref tb, .int 0, .int 0, .int 0, .ref tr, .int 0, .ref fz, .int 0])), (sl, .inl (cI, 1653, .inl (fun _ => 0)))] (fun (r : Int32) (_u : Unit) => r = sp_image p0) (fun _ => []) 0 0 := by
  refine wm_i (cc := cX8_image) (maxL := 2) (ret := (some .int)) (by decide) rfl (Nat.le_of_ble_eq_true rfl) ?_
  intro p e s m below meth c A ls hx hb hr hml hown hts hlocks hin hP hK hD hN hA hl hS
  have hown : s.vm.findClass RX8 = some m.cls := hown
  have hl : lv_has ls 2 [(0, .ref h), (1, .int p0)] := hl
  change W p l e ({ frames := 1, cells := 0, slots := 0, locals := 25 }) s m ([.ref h, .int p0] : List Value).toArray below meth c s.heap [] 0 0 (MQ below (va_Qi (fun (r : Int32) (_u : Unit) => r = sp_image p0) (fun u t => wb D A ((fun _ => []) u) t) A) ([.ref h, .int p0] : List Value).toArray s 0 0 A) (F0 m 0 ls [])
  refine lv_iload_n hx hb dX8_image_0 rfl (lv_at hl 1 rfl) ?_
  refine lv_i2l (v := (p0.toInt64)) hx hb dX8_image_1 rfl ?_
  refine lv_lconst (v := 0) hx hb dX8_image_2 (by decide) ?_
  refine lv_lconst (v := 1) hx hb dX8_image_3 (by decide) ?_
  have k_1 := (k_in l D cI cB cQ s.heap.size (p0.toInt64) 0 1)
  refine wc_i (WC := []) (WR := [(h, .inr (7, [.ref sl, .int 0, .ref zs, .ref ln, .ref ir, .ref tk, .int 0, .int 0, .ref tb, .int 0, .int 0, .int 0, .ref tr, .int 0, .ref fz, .int 0])), (sl, .inl (cI, 1653, .inl (fun _ => 0)))]) (va_runS (As := [.long (p0.toInt64), .long 0, .long 1]) (rest := []) ⟨hx, hb, hml, hown, hts⟩ k_1 (va_cwS 3 hts gX8_image_X8_in rfl rfl rfl (by decide +kernel) ⟨Nat.le_of_ble_eq_true rfl, Nat.le_of_ble_eq_true rfl⟩) (wp_S hP hK hD hN [] (by decide) rfl) rfl rfl hl.1 rfl (lv_room (Nat.le_of_ble_eq_true rfl)) dX8_image_4 ⟨Nat.le_of_ble_eq_true rfl, Nat.le_of_ble_eq_true rfl⟩) hP hD hS hA [] [0, 1] rfl rfl (by decide) (by decide) (fun r_1 u_1 H locs hw_1 hP hD hS => ?_)
  have hP : va_P D kl [(h, .inr (7, [.ref sl, .int 0, .ref zs, .ref ln, .ref ir, .ref tk, .int 0, .int 0, .ref tb, .int 0, .int 0, .int 0, .ref tr, .int 0, .ref fz, .int 0])), (sl, .inl (cI, 1653, .inl (fun _ => 0)))] H := hP
  have hD : va_D A [(h, .inr (7, [.ref sl, .int 0, .ref zs, .ref ln, .ref ir, .ref tk, .int 0, .int 0, .ref tb, .int 0, .int 0, .int 0, .ref tr, .int 0, .ref fz, .int 0])), (sl, .inl (cI, 1653, .inl (fun _ => 0)))] := hD
  rcases hw_1 with ⟨e_1, f_1⟩ | ⟨e_1, f_1⟩
  · subst e_1
    have f_1 : 0 ≤ p0.toInt ∧ p0.toInt ≤ 1 := by
      have h8 := f_1
      try rw [zl_of] at h8
      exact h8
    refine lv_if_ne (tgt := 13) hx hb dX8_image_7 (by decide) (fun _ => ?_) (fun c9 => absurd c9 (by decide))
    refine lv_aload_n hx hb dX8_image_13 rfl (lv_at hl 0 rfl) ?_
    refine va_get (D := D) (ci := 7) (v := .ref sl) (C := RX8) (T := TX8) (N := 16) hx hb hts (fun _ h => List.mem_cons_of_mem _ (List.mem_append_right _ h)) hown hK hP 0 rfl rfl 0 (by decide) (hts (.fieldLink RX8 7 "WinterWalkModel" "slot" "[I") (List.mem_of_getElem? (i := 2) rfl)) (fun _ h9 => h9) rfl dX8_image_14 ?_
    refine lv_iconst (v := 1) hx hb dX8_image_17 (by decide) ?_
    refine va_iald hx hb hK hP 1 0 rfl rfl (zi_in (by decide) (by decide)) dX8_image_18 ?_
    refine lv_topi (fun x_2 ex_2 => ?_)
    obtain rfl : x_2 = 0 := ex_2
    refine lv_if_ne (tgt := 25) hx hb dX8_image_19 (by decide) (fun c9 => absurd (by decide) c9) (fun _ => ?_)
    refine lv_ldc (v := (-1000002)) hx hb hown (hts (.constant RX8 121 (-1000002)) (List.mem_of_getElem? (i := 3) rfl)) dX8_image_22 ?_
    exact wr_i (v := (-1000002)) hx hb hr hlocks hS () (by unfold sp_image; (repeat' split) <;> first | rfl | (exfalso; omega)) (hP.sub [] rfl) (hD.sub [] (by decide) rfl) dX8_image_24
  · subst e_1
    have f_1 : ¬ (0 ≤ p0.toInt ∧ p0.toInt ≤ 1) := by
      have h8 := f_1
      try rw [zl_of] at h8
      exact h8
    refine lv_if_ne (tgt := 13) hx hb dX8_image_7 (by decide) (fun c9 => absurd (by decide) c9) (fun _ => ?_)
    refine lv_ldc (v := (-1000001)) hx hb hown (hts (.constant RX8 48 (-1000001)) (List.mem_of_getElem? (i := 1) rfl)) dX8_image_10 ?_
    exact wr_i (v := (-1000001)) hx hb hr hlocks hS () (by unfold sp_image; (repeat' split) <;> first | rfl | (exfalso; omega)) (hP.sub [] rfl) (hD.sub [] (by decide) rfl) dX8_image_12
set_option maxHeartbeats 4000000 in
set_option maxRecDepth 100000 in
theorem km_restore (l : Launch) (D : va_G) (cI cB cQ : ClassId) (sz : Nat) (h : Nat) (sl : Nat) (zs : Nat) (ln : Nat) (ir : Nat) (tk : Nat) (tb : Nat) (tr : Nat) (fz : Nat) (p0 : Int32) : mi l yX8_restore wsX8_restore ({ frames := 1, cells := 0, slots := 0, locals := 25 }) D cI cB cQ [.ref h, .int p0] sz [(h, .inr (7, [.ref sl, .int 0, .ref zs, .ref ln, .ref ir, .ref tk, .int 0, .int 0, .ref tb, .int 0, .int 0, .int 0, .ref tr, .int 0, .ref fz, .int 0])), (sl, .inl (cI, 1653, .inl (fun _ => 0)))] (fun (r : Int32) (_u : Unit) => r = sp_image p0) (fun _ => []) 0 0 := by
  refine wm_i (cc := cX8_restore) (maxL := 2) (ret := (some .int)) (by decide) rfl (Nat.le_of_ble_eq_true rfl) ?_
  intro p e s m below meth c A ls hx hb hr hml hown hts hlocks hin hP hK hD hN hA hl hS
  have hown : s.vm.findClass RX8 = some m.cls := hown
  have hl : lv_has ls 2 [(0, .ref h), (1, .int p0)] := hl
  change W p l e ({ frames := 1, cells := 0, slots := 0, locals := 25 }) s m ([.ref h, .int p0] : List Value).toArray below meth c s.heap [] 0 0 (MQ below (va_Qi (fun (r : Int32) (_u : Unit) => r = sp_image p0) (fun u t => wb D A ((fun _ => []) u) t) A) ([.ref h, .int p0] : List Value).toArray s 0 0 A) (F0 m 0 ls [])
  refine lv_iload_n hx hb dX8_restore_0 rfl (lv_at hl 1 rfl) ?_
  refine lv_i2l (v := (p0.toInt64)) hx hb dX8_restore_1 rfl ?_
  refine lv_lconst (v := 0) hx hb dX8_restore_2 (by decide) ?_
  refine lv_lconst (v := 1) hx hb dX8_restore_3 (by decide) ?_
  have k_1 := (k_in l D cI cB cQ s.heap.size (p0.toInt64) 0 1)
  refine wc_i (WC := []) (WR := [(h, .inr (7, [.ref sl, .int 0, .ref zs, .ref ln, .ref ir, .ref tk, .int 0, .int 0, .ref tb, .int 0, .int 0, .int 0, .ref tr, .int 0, .ref fz, .int 0])), (sl, .inl (cI, 1653, .inl (fun _ => 0)))]) (va_runS (As := [.long (p0.toInt64), .long 0, .long 1]) (rest := []) ⟨hx, hb, hml, hown, hts⟩ k_1 (va_cwS 3 hts gX8_restore_X8_in rfl rfl rfl (by decide +kernel) ⟨Nat.le_of_ble_eq_true rfl, Nat.le_of_ble_eq_true rfl⟩) (wp_S hP hK hD hN [] (by decide) rfl) rfl rfl hl.1 rfl (lv_room (Nat.le_of_ble_eq_true rfl)) dX8_restore_4 ⟨Nat.le_of_ble_eq_true rfl, Nat.le_of_ble_eq_true rfl⟩) hP hD hS hA [] [0, 1] rfl rfl (by decide) (by decide) (fun r_1 u_1 H locs hw_1 hP hD hS => ?_)
  have hP : va_P D kl [(h, .inr (7, [.ref sl, .int 0, .ref zs, .ref ln, .ref ir, .ref tk, .int 0, .int 0, .ref tb, .int 0, .int 0, .int 0, .ref tr, .int 0, .ref fz, .int 0])), (sl, .inl (cI, 1653, .inl (fun _ => 0)))] H := hP
  have hD : va_D A [(h, .inr (7, [.ref sl, .int 0, .ref zs, .ref ln, .ref ir, .ref tk, .int 0, .int 0, .ref tb, .int 0, .int 0, .int 0, .ref tr, .int 0, .ref fz, .int 0])), (sl, .inl (cI, 1653, .inl (fun _ => 0)))] := hD
  rcases hw_1 with ⟨e_1, f_1⟩ | ⟨e_1, f_1⟩
  · subst e_1
    have f_1 : 0 ≤ p0.toInt ∧ p0.toInt ≤ 1 := by
      have h8 := f_1
      try rw [zl_of] at h8
      exact h8
    refine lv_if_ne (tgt := 13) hx hb dX8_restore_7 (by decide) (fun _ => ?_) (fun c9 => absurd c9 (by decide))
    refine lv_aload_n hx hb dX8_restore_13 rfl (lv_at hl 0 rfl) ?_
    refine va_get (D := D) (ci := 7) (v := .ref sl) (C := RX8) (T := TX8) (N := 16) hx hb hts (fun _ h => List.mem_cons_of_mem _ (List.mem_append_right _ h)) hown hK hP 0 rfl rfl 0 (by decide) (hts (.fieldLink RX8 7 "WinterWalkModel" "slot" "[I") (List.mem_of_getElem? (i := 2) rfl)) (fun _ h9 => h9) rfl dX8_restore_14 ?_
    refine lv_iload_n hx hb dX8_restore_17 rfl (lv_at hl 1 rfl) ?_
    refine lv_iconst (v := 1) hx hb dX8_restore_18 (by decide) ?_
    refine lv_iadd hx hb dX8_restore_19 ?_
    refine lv_topi (fun x_2 ex_2 => ?_)
    have e_2 : x_2.toInt = p0.toInt + 1 := by rw [ex_2]; exact zi_add (rfl) (by decide) (by omega) (by omega)
    refine lv_bipush (v := 57) hx hb dX8_restore_20 (by decide) ?_
    refine lv_imul hx hb dX8_restore_22 ?_
    refine lv_topi (fun x_3 ex_3 => ?_)
    have e_3 : x_3.toInt = x_2.toInt * 57 := by rw [ex_3]; exact zi_mul (rfl) (by decide) (by omega) (by omega)
    refine lv_iconst (v := 1) hx hb dX8_restore_23 (by decide) ?_
    refine lv_iadd hx hb dX8_restore_24 ?_
    refine lv_topi (fun x_4 ex_4 => ?_)
    have e_4 : x_4.toInt = x_3.toInt + 1 := by rw [ex_4]; exact zi_add (rfl) (by decide) (by omega) (by omega)
    refine va_iald hx hb hK hP 1 0 rfl rfl (zi_in (by omega) (by omega)) dX8_restore_25 ?_
    refine lv_topi (fun x_5 ex_5 => ?_)
    obtain rfl : x_5 = 0 := ex_5
    refine lv_if_ne (tgt := 32) hx hb dX8_restore_26 (by decide) (fun c9 => absurd (by decide) c9) (fun _ => ?_)
    refine lv_ldc (v := (-1000002)) hx hb hown (hts (.constant RX8 121 (-1000002)) (List.mem_of_getElem? (i := 3) rfl)) dX8_restore_29 ?_
    exact wr_i (v := (-1000002)) hx hb hr hlocks hS () (by unfold sp_image; (repeat' split) <;> first | rfl | (exfalso; omega)) (hP.sub [] rfl) (hD.sub [] (by decide) rfl) dX8_restore_31
  · subst e_1
    have f_1 : ¬ (0 ≤ p0.toInt ∧ p0.toInt ≤ 1) := by
      have h8 := f_1
      try rw [zl_of] at h8
      exact h8
    refine lv_if_ne (tgt := 13) hx hb dX8_restore_7 (by decide) (fun c9 => absurd (by decide) c9) (fun _ => ?_)
    refine lv_ldc (v := (-1000001)) hx hb hown (hts (.constant RX8 48 (-1000001)) (List.mem_of_getElem? (i := 1) rfl)) dX8_restore_10 ?_
    exact wr_i (v := (-1000001)) hx hb hr hlocks hS () (by unfold sp_image; (repeat' split) <;> first | rfl | (exfalso; omega)) (hP.sub [] rfl) (hD.sub [] (by decide) rfl) dX8_restore_12
set_option maxHeartbeats 4000000 in
set_option maxRecDepth 100000 in
theorem km_kind (l : Launch) (D : va_G) (cI cB cQ : ClassId) (sz : Nat) (h : Nat) (sl : Nat) (zs : Nat) (ln : Nat) (ir : Nat) (tk : Nat) (tb : Nat) (tr : Nat) (fz : Nat) (p0 : Int32) : mi l yX8_kind wsX8_kind ({ frames := 2, cells := 0, slots := 0, locals := 46 }) D cI cB cQ [.ref h, .int p0] sz [(h, .inr (7, [.ref sl, .int 0, .ref zs, .ref ln, .ref ir, .ref tk, .int 0, .int 0, .ref tb, .int 0, .int 0, .int 0, .ref tr, .int 0, .ref fz, .int 0])), (sl, .inl (cI, 1653, .inl (fun _ => 0)))] (fun (r : Int32) (_u : Unit) => r = (-1000001)) (fun _ => []) 0 0 := by
  refine wm_i (cc := cX8_kind) (maxL := 2) (ret := (some .int)) (by decide) rfl (Nat.le_of_ble_eq_true rfl) ?_
  intro p e s m below meth c A ls hx hb hr hml hown hts hlocks hin hP hK hD hN hA hl hS
  have hown : s.vm.findClass RX8 = some m.cls := hown
  have hl : lv_has ls 2 [(0, .ref h), (1, .int p0)] := hl
  change W p l e ({ frames := 2, cells := 0, slots := 0, locals := 46 }) s m ([.ref h, .int p0] : List Value).toArray below meth c s.heap [] 0 0 (MQ below (va_Qi (fun (r : Int32) (_u : Unit) => r = (-1000001)) (fun u t => wb D A ((fun _ => []) u) t) A) ([.ref h, .int p0] : List Value).toArray s 0 0 A) (F0 m 0 ls [])
  refine lv_aload_n hx hb dX8_kind_0 rfl (lv_at hl 0 rfl) ?_
  refine lv_iload_n hx hb dX8_kind_1 rfl (lv_at hl 1 rfl) ?_
  have k_1 := (k_isWT l D cI cB cQ s.heap.size h sl zs ln ir tk tb tr fz p0)
  refine wc_i (WC := [(h, .inr (7, [.ref sl, .int 0, .ref zs, .ref ln, .ref ir, .ref tk, .int 0, .int 0, .ref tb, .int 0, .int 0, .int 0, .ref tr, .int 0, .ref fz, .int 0])), (sl, .inl (cI, 1653, .inl (fun _ => 0)))]) (WR := []) (va_runV (As := [.int p0]) (rest := []) ⟨hx, hb, hml, hown, hts⟩ k_1 (cwV 1 hts gX8_kind_X8_isWalkerThere rfl rfl rfl (by decide +kernel) ⟨Nat.le_of_ble_eq_true rfl, Nat.le_of_ble_eq_true rfl⟩) (wp_V hP hK hD hN [0, 1] (by decide) rfl (ci := 7) rfl rfl) rfl rfl hl.1 rfl (lv_room (Nat.le_of_ble_eq_true rfl)) dX8_kind_2 ⟨Nat.le_of_ble_eq_true rfl, Nat.le_of_ble_eq_true rfl⟩) hP hD hS hA [0, 1] [] rfl rfl (by decide) (by decide) (fun r_1 u_1 H locs hw_1 hP hD hS => ?_)
  have hP : va_P D kl [(h, .inr (7, [.ref sl, .int 0, .ref zs, .ref ln, .ref ir, .ref tk, .int 0, .int 0, .ref tb, .int 0, .int 0, .int 0, .ref tr, .int 0, .ref fz, .int 0])), (sl, .inl (cI, 1653, .inl (fun _ => 0)))] H := hP
  have hD : va_D A [(h, .inr (7, [.ref sl, .int 0, .ref zs, .ref ln, .ref ir, .ref tk, .int 0, .int 0, .ref tb, .int 0, .int 0, .int 0, .ref tr, .int 0, .ref fz, .int 0])), (sl, .inl (cI, 1653, .inl (fun _ => 0)))] := hD
  obtain rfl : r_1 = 0 := by first | exact hw_1 | exact hw_1.trans (by decide)
  refine lv_if_eq (tgt := 20) hx hb dX8_kind_5 (by decide) (fun _ => ?_) (fun c9 => absurd (by decide) c9)
  refine lv_ldc (v := (-1000001)) hx hb hown (hts (.constant RX8 48 (-1000001)) (List.mem_of_getElem? (i := 2) rfl)) dX8_kind_20 ?_
  exact wr_i (v := (-1000001)) hx hb hr hlocks hS () (by rfl) (hP.sub [] rfl) (hD.sub [] (by decide) rfl) dX8_kind_22
set_option maxHeartbeats 4000000 in
set_option maxRecDepth 100000 in
theorem km_as (l : Launch) (D : va_G) (cI cB cQ : ClassId) (sz : Nat) (h : Nat) (sl : Nat) (zs : Nat) (ln : Nat) (ir : Nat) (tk : Nat) (tb : Nat) (tr : Nat) (fz : Nat) (p0 : Int32) (p1 : Int32) : mi l yX8_as wsX8_as ({ frames := 2, cells := 0, slots := 0, locals := 46 }) D cI cB cQ [.ref h, .int p0, .int p1] sz [(h, .inr (7, [.ref sl, .int 0, .ref zs, .ref ln, .ref ir, .ref tk, .int 0, .int 0, .ref tb, .int 0, .int 0, .int 0, .ref tr, .int 0, .ref fz, .int 0])), (sl, .inl (cI, 1653, .inl (fun _ => 0)))] (fun (r : Int32) (_u : Unit) => r = (-1000001)) (fun _ => []) 0 0 := by
  refine wm_i (cc := cX8_as) (maxL := 3) (ret := (some .int)) (by decide) rfl (Nat.le_of_ble_eq_true rfl) ?_
  intro p e s m below meth c A ls hx hb hr hml hown hts hlocks hin hP hK hD hN hA hl hS
  have hown : s.vm.findClass RX8 = some m.cls := hown
  have hl : lv_has ls 3 [(0, .ref h), (1, .int p0), (2, .int p1)] := hl
  change W p l e ({ frames := 2, cells := 0, slots := 0, locals := 46 }) s m ([.ref h, .int p0, .int p1] : List Value).toArray below meth c s.heap [] 0 0 (MQ below (va_Qi (fun (r : Int32) (_u : Unit) => r = (-1000001)) (fun u t => wb D A ((fun _ => []) u) t) A) ([.ref h, .int p0, .int p1] : List Value).toArray s 0 0 A) (F0 m 0 ls [])
  refine lv_aload_n hx hb dX8_as_0 rfl (lv_at hl 0 rfl) ?_
  refine lv_iload_n hx hb dX8_as_1 rfl (lv_at hl 1 rfl) ?_
  have k_1 := (k_isWT l D cI cB cQ s.heap.size h sl zs ln ir tk tb tr fz p0)
  refine wc_i (WC := [(h, .inr (7, [.ref sl, .int 0, .ref zs, .ref ln, .ref ir, .ref tk, .int 0, .int 0, .ref tb, .int 0, .int 0, .int 0, .ref tr, .int 0, .ref fz, .int 0])), (sl, .inl (cI, 1653, .inl (fun _ => 0)))]) (WR := []) (va_runV (As := [.int p0]) (rest := []) ⟨hx, hb, hml, hown, hts⟩ k_1 (cwV 1 hts gX8_as_X8_isWalkerThere rfl rfl rfl (by decide +kernel) ⟨Nat.le_of_ble_eq_true rfl, Nat.le_of_ble_eq_true rfl⟩) (wp_V hP hK hD hN [0, 1] (by decide) rfl (ci := 7) rfl rfl) rfl rfl hl.1 rfl (lv_room (Nat.le_of_ble_eq_true rfl)) dX8_as_2 ⟨Nat.le_of_ble_eq_true rfl, Nat.le_of_ble_eq_true rfl⟩) hP hD hS hA [0, 1] [] rfl rfl (by decide) (by decide) (fun r_1 u_1 H locs hw_1 hP hD hS => ?_)
  have hP : va_P D kl [(h, .inr (7, [.ref sl, .int 0, .ref zs, .ref ln, .ref ir, .ref tk, .int 0, .int 0, .ref tb, .int 0, .int 0, .int 0, .ref tr, .int 0, .ref fz, .int 0])), (sl, .inl (cI, 1653, .inl (fun _ => 0)))] H := hP
  have hD : va_D A [(h, .inr (7, [.ref sl, .int 0, .ref zs, .ref ln, .ref ir, .ref tk, .int 0, .int 0, .ref tb, .int 0, .int 0, .int 0, .ref tr, .int 0, .ref fz, .int 0])), (sl, .inl (cI, 1653, .inl (fun _ => 0)))] := hD
  obtain rfl : r_1 = 0 := by first | exact hw_1 | exact hw_1.trans (by decide)
  refine lv_if_eq (tgt := 20) hx hb dX8_as_5 (by decide) (fun _ => ?_) (fun c9 => absurd (by decide) c9)
  refine lv_ldc (v := (-1000001)) hx hb hown (hts (.constant RX8 48 (-1000001)) (List.mem_of_getElem? (i := 2) rfl)) dX8_as_20 ?_
  exact wr_i (v := (-1000001)) hx hb hr hlocks hS () (by rfl) (hP.sub [] rfl) (hD.sub [] (by decide) rfl) dX8_as_22
set_option maxHeartbeats 4000000 in
set_option maxRecDepth 100000 in
theorem km_ask (l : Launch) (D : va_G) (cI cB cQ : ClassId) (sz : Nat) (h : Nat) (sl : Nat) (zs : Nat) (ln : Nat) (ir : Nat) (tk : Nat) (tb : Nat) (tr : Nat) (fz : Nat) (p0 : Int32) (p1 : Int32) : mi l yX8_ask wsX8_ask ({ frames := 2, cells := 0, slots := 0, locals := 46 }) D cI cB cQ [.ref h, .int p0, .int p1] sz [(h, .inr (7, [.ref sl, .int 0, .ref zs, .ref ln, .ref ir, .ref tk, .int 0, .int 0, .ref tb, .int 0, .int 0, .int 0, .ref tr, .int 0, .ref fz, .int 0])), (sl, .inl (cI, 1653, .inl (fun _ => 0)))] (fun (r : Int32) (_u : Unit) => r = (-1000001)) (fun _ => []) 0 0 := by
  refine wm_i (cc := cX8_ask) (maxL := 3) (ret := (some .int)) (by decide) rfl (Nat.le_of_ble_eq_true rfl) ?_
  intro p e s m below meth c A ls hx hb hr hml hown hts hlocks hin hP hK hD hN hA hl hS
  have hown : s.vm.findClass RX8 = some m.cls := hown
  have hl : lv_has ls 3 [(0, .ref h), (1, .int p0), (2, .int p1)] := hl
  change W p l e ({ frames := 2, cells := 0, slots := 0, locals := 46 }) s m ([.ref h, .int p0, .int p1] : List Value).toArray below meth c s.heap [] 0 0 (MQ below (va_Qi (fun (r : Int32) (_u : Unit) => r = (-1000001)) (fun u t => wb D A ((fun _ => []) u) t) A) ([.ref h, .int p0, .int p1] : List Value).toArray s 0 0 A) (F0 m 0 ls [])
  refine lv_aload_n hx hb dX8_ask_0 rfl (lv_at hl 0 rfl) ?_
  refine lv_iload_n hx hb dX8_ask_1 rfl (lv_at hl 1 rfl) ?_
  have k_1 := (k_isWT l D cI cB cQ s.heap.size h sl zs ln ir tk tb tr fz p0)
  refine wc_i (WC := [(h, .inr (7, [.ref sl, .int 0, .ref zs, .ref ln, .ref ir, .ref tk, .int 0, .int 0, .ref tb, .int 0, .int 0, .int 0, .ref tr, .int 0, .ref fz, .int 0])), (sl, .inl (cI, 1653, .inl (fun _ => 0)))]) (WR := []) (va_runV (As := [.int p0]) (rest := []) ⟨hx, hb, hml, hown, hts⟩ k_1 (cwV 1 hts gX8_ask_X8_isWalkerThere rfl rfl rfl (by decide +kernel) ⟨Nat.le_of_ble_eq_true rfl, Nat.le_of_ble_eq_true rfl⟩) (wp_V hP hK hD hN [0, 1] (by decide) rfl (ci := 7) rfl rfl) rfl rfl hl.1 rfl (lv_room (Nat.le_of_ble_eq_true rfl)) dX8_ask_2 ⟨Nat.le_of_ble_eq_true rfl, Nat.le_of_ble_eq_true rfl⟩) hP hD hS hA [0, 1] [] rfl rfl (by decide) (by decide) (fun r_1 u_1 H locs hw_1 hP hD hS => ?_)
  have hP : va_P D kl [(h, .inr (7, [.ref sl, .int 0, .ref zs, .ref ln, .ref ir, .ref tk, .int 0, .int 0, .ref tb, .int 0, .int 0, .int 0, .ref tr, .int 0, .ref fz, .int 0])), (sl, .inl (cI, 1653, .inl (fun _ => 0)))] H := hP
  have hD : va_D A [(h, .inr (7, [.ref sl, .int 0, .ref zs, .ref ln, .ref ir, .ref tk, .int 0, .int 0, .ref tb, .int 0, .int 0, .int 0, .ref tr, .int 0, .ref fz, .int 0])), (sl, .inl (cI, 1653, .inl (fun _ => 0)))] := hD
  obtain rfl : r_1 = 0 := by first | exact hw_1 | exact hw_1.trans (by decide)
  refine lv_if_eq (tgt := 18) hx hb dX8_ask_5 (by decide) (fun _ => ?_) (fun c9 => absurd (by decide) c9)
  refine lv_ldc (v := (-1000001)) hx hb hown (hts (.constant RX8 48 (-1000001)) (List.mem_of_getElem? (i := 1) rfl)) dX8_ask_18 ?_
  exact wr_i (v := (-1000001)) hx hb hr hlocks hS () (by rfl) (hP.sub [] rfl) (hD.sub [] (by decide) rfl) dX8_ask_20
set_option maxHeartbeats 4000000 in
set_option maxRecDepth 100000 in
theorem km_trace (l : Launch) (D : va_G) (cI cB cQ : ClassId) (sz : Nat) (h : Nat) (sl : Nat) (zs : Nat) (ln : Nat) (ir : Nat) (tk : Nat) (tb : Nat) (tr : Nat) (fz : Nat) (p0 : Int32) : mi l yX8_trace wsX8_trace ({ frames := 1, cells := 0, slots := 0, locals := 25 }) D cI cB cQ [.ref h, .int p0] sz [(h, .inr (7, [.ref sl, .int 0, .ref zs, .ref ln, .ref ir, .ref tk, .int 0, .int 0, .ref tb, .int 0, .int 0, .int 0, .ref tr, .int 0, .ref fz, .int 0]))] (fun (r : Int32) (_u : Unit) => r = (-1000000)) (fun _ => []) 0 0 := by
  refine wm_i (cc := cX8_trace) (maxL := 2) (ret := (some .int)) (by decide) rfl (Nat.le_of_ble_eq_true rfl) ?_
  intro p e s m below meth c A ls hx hb hr hml hown hts hlocks hin hP hK hD hN hA hl hS
  have hown : s.vm.findClass RX8 = some m.cls := hown
  have hl : lv_has ls 2 [(0, .ref h), (1, .int p0)] := hl
  change W p l e ({ frames := 1, cells := 0, slots := 0, locals := 25 }) s m ([.ref h, .int p0] : List Value).toArray below meth c s.heap [] 0 0 (MQ below (va_Qi (fun (r : Int32) (_u : Unit) => r = (-1000000)) (fun u t => wb D A ((fun _ => []) u) t) A) ([.ref h, .int p0] : List Value).toArray s 0 0 A) (F0 m 0 ls [])
  refine lv_iload_n hx hb dX8_trace_0 rfl (lv_at hl 1 rfl) ?_
  refine lv_i2l (v := (p0.toInt64)) hx hb dX8_trace_1 rfl ?_
  refine lv_lconst (v := 0) hx hb dX8_trace_2 (by decide) ?_
  refine lv_aload_n hx hb dX8_trace_3 rfl (lv_at hl 0 rfl) ?_
  refine va_get (D := D) (ci := 7) (v := .int 0) (C := RX8) (T := TX8) (N := 16) hx hb hts (fun _ h => List.mem_cons_of_mem _ (List.mem_append_right _ h)) hown hK hP 0 rfl rfl 13 (by decide) (hts (.fieldLink RX8 208 "WinterWalkModel" "traced" "I") (List.mem_of_getElem? (i := 1) rfl)) (fun _ h9 => h9) rfl dX8_trace_4 ?_
  refine lv_iconst (v := 1) hx hb dX8_trace_7 (by decide) ?_
  refine lv_isub hx hb dX8_trace_8 ?_
  refine lv_topi (fun x_1 ex_1 => ?_)
  obtain rfl : x_1 = (-1) := ex_1.trans (by decide)
  refine lv_i2l (v := (-1)) hx hb dX8_trace_9 (by decide) ?_
  have k_2 := (k_in l D cI cB cQ s.heap.size (p0.toInt64) 0 (-1))
  refine wc_i (WC := []) (WR := [(h, .inr (7, [.ref sl, .int 0, .ref zs, .ref ln, .ref ir, .ref tk, .int 0, .int 0, .ref tb, .int 0, .int 0, .int 0, .ref tr, .int 0, .ref fz, .int 0]))]) (va_runS (As := [.long (p0.toInt64), .long 0, .long (-1)]) (rest := []) ⟨hx, hb, hml, hown, hts⟩ k_2 (va_cwS 3 hts gX8_trace_X8_in rfl rfl rfl (by decide +kernel) ⟨Nat.le_of_ble_eq_true rfl, Nat.le_of_ble_eq_true rfl⟩) (wp_S hP hK hD hN [] (by decide) rfl) rfl rfl hl.1 rfl (lv_room (Nat.le_of_ble_eq_true rfl)) dX8_trace_10 ⟨Nat.le_of_ble_eq_true rfl, Nat.le_of_ble_eq_true rfl⟩) hP hD hS hA [] [0] rfl rfl (by decide) (by decide) (fun r_2 u_2 H locs hw_2 hP hD hS => ?_)
  have hP : va_P D kl [(h, .inr (7, [.ref sl, .int 0, .ref zs, .ref ln, .ref ir, .ref tk, .int 0, .int 0, .ref tb, .int 0, .int 0, .int 0, .ref tr, .int 0, .ref fz, .int 0]))] H := hP
  have hD : va_D A [(h, .inr (7, [.ref sl, .int 0, .ref zs, .ref ln, .ref ir, .ref tk, .int 0, .int 0, .ref tb, .int 0, .int 0, .int 0, .ref tr, .int 0, .ref fz, .int 0]))] := hD
  rcases hw_2 with ⟨e_2, f_2⟩ | ⟨e_2, f_2⟩
  · subst e_2
    have f_2 : 0 ≤ p0.toInt ∧ p0.toInt ≤ (-1) := by
      have h8 := f_2
      try rw [zl_of] at h8
      exact h8
    exfalso; omega
  · subst e_2
    have f_2 : ¬ (0 ≤ p0.toInt ∧ p0.toInt ≤ (-1)) := by
      have h8 := f_2
      try rw [zl_of] at h8
      exact h8
    refine lv_if_eq (tgt := 25) hx hb dX8_trace_13 (by decide) (fun _ => ?_) (fun c9 => absurd (by decide) c9)
    refine lv_ldc (v := (-1000000)) hx hb hown (hts (.constant RX8 99 (-1000000)) (List.mem_of_getElem? (i := 3) rfl)) dX8_trace_25 ?_
    exact wr_i (v := (-1000000)) hx hb hr hlocks hS () (by rfl) (hP.sub [] rfl) (hD.sub [] (by decide) rfl) dX8_trace_27
set_option maxHeartbeats 4000000 in
set_option maxRecDepth 100000 in
theorem km_count (l : Launch) (D : va_G) (cI cB cQ : ClassId) (sz : Nat) (h : Nat) (sl : Nat) (zs : Nat) (ln : Nat) (ir : Nat) (tk : Nat) (tb : Nat) (tr : Nat) (fz : Nat) (p0 : Int32) : mi l yX8_count wsX8_count ({ frames := 1, cells := 0, slots := 0, locals := 25 }) D cI cB cQ [.ref h, .int p0] sz [(h, .inr (7, [.ref sl, .int 0, .ref zs, .ref ln, .ref ir, .ref tk, .int 0, .int 0, .ref tb, .int 0, .int 0, .int 0, .ref tr, .int 0, .ref fz, .int 0])), (sl, .inl (cI, 1653, .inl (fun _ => 0))), (zs, .inl (cI, 8, .inl (fun _ => (-1))))] (fun (r : Int32) (_u : Unit) => r = sp_count p0) (fun _ => []) 0 0 := by
  refine wm_i (cc := cX8_count) (maxL := 4) (ret := (some .int)) (by decide) rfl (Nat.le_of_ble_eq_true rfl) ?_
  intro p e s m below meth c A ls hx hb hr hml hown hts hlocks hin hP hK hD hN hA hl hS
  have hown : s.vm.findClass RX8 = some m.cls := hown
  have hl : lv_has ls 4 [(0, .ref h), (1, .int p0)] := hl
  change W p l e ({ frames := 1, cells := 0, slots := 0, locals := 25 }) s m ([.ref h, .int p0] : List Value).toArray below meth c s.heap [] 0 0 (MQ below (va_Qi (fun (r : Int32) (_u : Unit) => r = sp_count p0) (fun u t => wb D A ((fun _ => []) u) t) A) ([.ref h, .int p0] : List Value).toArray s 0 0 A) (F0 m 0 ls [])
  refine lv_iload_n hx hb dX8_count_0 rfl (lv_at hl 1 rfl) ?_
  refine lv_i2l (v := (p0.toInt64)) hx hb dX8_count_1 rfl ?_
  refine lv_lconst (v := 0) hx hb dX8_count_2 (by decide) ?_
  refine lv_ldc2 (v := 8) hx hb hown (hts (.constantLong RX8 238 (8)) (List.mem_of_getElem? (i := 1) rfl)) dX8_count_3 ?_
  have k_1 := (k_in l D cI cB cQ s.heap.size (p0.toInt64) 0 8)
  refine wc_i (WC := []) (WR := [(h, .inr (7, [.ref sl, .int 0, .ref zs, .ref ln, .ref ir, .ref tk, .int 0, .int 0, .ref tb, .int 0, .int 0, .int 0, .ref tr, .int 0, .ref fz, .int 0])), (sl, .inl (cI, 1653, .inl (fun _ => 0))), (zs, .inl (cI, 8, .inl (fun _ => (-1))))]) (va_runS (As := [.long (p0.toInt64), .long 0, .long 8]) (rest := []) ⟨hx, hb, hml, hown, hts⟩ k_1 (va_cwS 3 hts gX8_count_X8_in rfl rfl rfl (by decide +kernel) ⟨Nat.le_of_ble_eq_true rfl, Nat.le_of_ble_eq_true rfl⟩) (wp_S hP hK hD hN [] (by decide) rfl) rfl rfl hl.1 rfl (lv_room (Nat.le_of_ble_eq_true rfl)) dX8_count_6 ⟨Nat.le_of_ble_eq_true rfl, Nat.le_of_ble_eq_true rfl⟩) hP hD hS hA [] [0, 1, 2] rfl rfl (by decide) (by decide) (fun r_1 u_1 H locs hw_1 hP hD hS => ?_)
  have hP : va_P D kl [(h, .inr (7, [.ref sl, .int 0, .ref zs, .ref ln, .ref ir, .ref tk, .int 0, .int 0, .ref tb, .int 0, .int 0, .int 0, .ref tr, .int 0, .ref fz, .int 0])), (sl, .inl (cI, 1653, .inl (fun _ => 0))), (zs, .inl (cI, 8, .inl (fun _ => (-1))))] H := hP
  have hD : va_D A [(h, .inr (7, [.ref sl, .int 0, .ref zs, .ref ln, .ref ir, .ref tk, .int 0, .int 0, .ref tb, .int 0, .int 0, .int 0, .ref tr, .int 0, .ref fz, .int 0])), (sl, .inl (cI, 1653, .inl (fun _ => 0))), (zs, .inl (cI, 8, .inl (fun _ => (-1))))] := hD
  rcases hw_1 with ⟨e_1, f_1⟩ | ⟨e_1, f_1⟩
  · subst e_1
    have f_1 : 0 ≤ p0.toInt ∧ p0.toInt ≤ 8 := by
      have h8 := f_1
      try rw [zl_of] at h8
      exact h8
    refine lv_if_ne (tgt := 15) hx hb dX8_count_9 (by decide) (fun _ => ?_) (fun c9 => absurd c9 (by decide))
    refine lv_iconst (v := 0) hx hb dX8_count_15 (by decide) ?_
    refine lv_istore_n (lv' := [(2, .int 0), (0, .ref h), (1, .int p0)]) hx hb dX8_count_16 rfl hl (by decide) rfl (fun ls hl => ?_)
    refine lv_iload_n hx hb dX8_count_17 rfl (lv_at hl 2 rfl) ?_
    by_cases f_2 : p0.toInt < 0 ∨ 7 < p0.toInt
    · refine lv_tableOut (tgt := 147) hx hb dX8_count_18 f_2 (by decide) ?_
      refine lv_aload_n hx hb dX8_count_147 rfl (lv_at hl 1 rfl) ?_
      refine va_get (D := D) (ci := 7) (v := .int 0) (C := RX8) (T := TX8) (N := 16) hx hb hts (fun _ h => List.mem_cons_of_mem _ (List.mem_append_right _ h)) hown hK hP 0 rfl rfl 7 (by decide) (hts (.fieldLink RX8 58 "WinterWalkModel" "length" "I") (List.mem_of_getElem? (i := 6) rfl)) (fun _ h9 => h9) rfl dX8_count_148 ?_
      exact wr_i (v := 0) hx hb hr hlocks hS () (by unfold sp_count; (repeat' split) <;> first | rfl | (exfalso; omega)) (hP.sub [] rfl) (hD.sub [] (by decide) rfl) dX8_count_151
    · rcases (show p0.toInt = 0 ∨ p0.toInt = 1 ∨ p0.toInt = 2 ∨ p0.toInt = 3 ∨ p0.toInt = 4 ∨ p0.toInt = 5 ∨ p0.toInt = 6 ∨ p0.toInt = 7 by omega) with f_2 | f_2 | f_2 | f_2 | f_2 | f_2 | f_2 | f_2
      · obtain rfl : p0 = 0 := Int32.toInt_inj.mp f_2
        refine lv_tableIn (off := 46) (tgt := 64) hx hb dX8_count_18 (by decide) (by decide) rfl (by decide) ?_
        refine lv_iconst (v := 0) hx hb dX8_count_64 (by decide) ?_
        refine lv_istore_n (lv' := [(3, .int 0), (2, .int 0), (0, .ref h), (1, .int 0)]) hx hb dX8_count_65 rfl hl (by decide) rfl (fun ls hl => ?_)
        refine lv_iload_n hx hb dX8_count_66 rfl (lv_at hl 0 rfl) ?_
        refine lv_bipush (v := 8) hx hb dX8_count_67 (by decide) ?_
        refine lv_icmp_ge (tgt := 95) hx hb dX8_count_69 (by decide) (fun c9 => absurd c9 (by decide)) (fun _ => ?_)
        refine lv_iload_n hx hb dX8_count_72 rfl (lv_at hl 1 rfl) ?_
        refine lv_aload_n hx hb dX8_count_73 rfl (lv_at hl 2 rfl) ?_
        refine va_get (D := D) (ci := 7) (v := .ref zs) (C := RX8) (T := TX8) (N := 16) hx hb hts (fun _ h => List.mem_cons_of_mem _ (List.mem_append_right _ h)) hown hK hP 0 rfl rfl 2 (by decide) (hts (.fieldLink RX8 13 "WinterWalkModel" "size" "[I") (List.mem_of_getElem? (i := 3) rfl)) (fun _ h9 => h9) rfl dX8_count_74 ?_
        refine lv_iload_n hx hb dX8_count_77 rfl (lv_at hl 0 rfl) ?_
        refine va_iald hx hb hK hP 2 0 rfl rfl (zi_in (by decide) (by decide)) dX8_count_78 ?_
        refine lv_topi (fun x_3 ex_3 => ?_)
        obtain rfl : x_3 = (-1) := ex_3
        refine lv_if_ge (tgt := 86) hx hb dX8_count_79 (by decide) (fun c9 => absurd c9 (by decide)) (fun _ => ?_)
        refine lv_iconst (v := 0) hx hb dX8_count_82 (by decide) ?_
        refine lv_goto (tgt := 87) hx hb dX8_count_83 (by decide) ?_
        refine lv_iadd hx hb dX8_count_87 ?_
        refine lv_topi (fun x_4 ex_4 => ?_)
        obtain rfl : x_4 = 0 := ex_4.trans (by decide)
        refine lv_istore_n (lv' := [(2, .int 0), (3, .int 0), (0, .ref h), (1, .int 0)]) hx hb dX8_count_88 rfl hl (by decide) rfl (fun ls hl => ?_)
        refine lv_iinc (v := 1) (lv' := [(3, .int 1), (2, .int 0), (0, .ref h), (1, .int 0)]) hx hb dX8_count_89 hl (k := 1) rfl (by decide) (by decide) rfl (fun ls hl => ?_)
        refine lv_goto (tgt := 66) hx hb dX8_count_92 (by decide) ?_
        refine lv_iload_n hx hb dX8_count_66 rfl (lv_at hl 0 rfl) ?_
        refine lv_bipush (v := 8) hx hb dX8_count_67 (by decide) ?_
        refine lv_icmp_ge (tgt := 95) hx hb dX8_count_69 (by decide) (fun c9 => absurd c9 (by decide)) (fun _ => ?_)
        refine lv_iload_n hx hb dX8_count_72 rfl (lv_at hl 1 rfl) ?_
        refine lv_aload_n hx hb dX8_count_73 rfl (lv_at hl 2 rfl) ?_
        refine va_get (D := D) (ci := 7) (v := .ref zs) (C := RX8) (T := TX8) (N := 16) hx hb hts (fun _ h => List.mem_cons_of_mem _ (List.mem_append_right _ h)) hown hK hP 0 rfl rfl 2 (by decide) (hts (.fieldLink RX8 13 "WinterWalkModel" "size" "[I") (List.mem_of_getElem? (i := 3) rfl)) (fun _ h9 => h9) rfl dX8_count_74 ?_
        refine lv_iload_n hx hb dX8_count_77 rfl (lv_at hl 0 rfl) ?_
        refine va_iald hx hb hK hP 2 0 rfl rfl (zi_in (by decide) (by decide)) dX8_count_78 ?_
        refine lv_topi (fun x_5 ex_5 => ?_)
        obtain rfl : x_5 = (-1) := ex_5
        refine lv_if_ge (tgt := 86) hx hb dX8_count_79 (by decide) (fun c9 => absurd c9 (by decide)) (fun _ => ?_)
        refine lv_iconst (v := 0) hx hb dX8_count_82 (by decide) ?_
        refine lv_goto (tgt := 87) hx hb dX8_count_83 (by decide) ?_
        refine lv_iadd hx hb dX8_count_87 ?_
        refine lv_topi (fun x_6 ex_6 => ?_)
        obtain rfl : x_6 = 0 := ex_6.trans (by decide)
        refine lv_istore_n (lv' := [(2, .int 0), (3, .int 1), (0, .ref h), (1, .int 0)]) hx hb dX8_count_88 rfl hl (by decide) rfl (fun ls hl => ?_)
        refine lv_iinc (v := 2) (lv' := [(3, .int 2), (2, .int 0), (0, .ref h), (1, .int 0)]) hx hb dX8_count_89 hl (k := 1) rfl (by decide) (by decide) rfl (fun ls hl => ?_)
        refine lv_goto (tgt := 66) hx hb dX8_count_92 (by decide) ?_
        refine lv_iload_n hx hb dX8_count_66 rfl (lv_at hl 0 rfl) ?_
        refine lv_bipush (v := 8) hx hb dX8_count_67 (by decide) ?_
        refine lv_icmp_ge (tgt := 95) hx hb dX8_count_69 (by decide) (fun c9 => absurd c9 (by decide)) (fun _ => ?_)
        refine lv_iload_n hx hb dX8_count_72 rfl (lv_at hl 1 rfl) ?_
        refine lv_aload_n hx hb dX8_count_73 rfl (lv_at hl 2 rfl) ?_
        refine va_get (D := D) (ci := 7) (v := .ref zs) (C := RX8) (T := TX8) (N := 16) hx hb hts (fun _ h => List.mem_cons_of_mem _ (List.mem_append_right _ h)) hown hK hP 0 rfl rfl 2 (by decide) (hts (.fieldLink RX8 13 "WinterWalkModel" "size" "[I") (List.mem_of_getElem? (i := 3) rfl)) (fun _ h9 => h9) rfl dX8_count_74 ?_
        refine lv_iload_n hx hb dX8_count_77 rfl (lv_at hl 0 rfl) ?_
        refine va_iald hx hb hK hP 2 0 rfl rfl (zi_in (by decide) (by decide)) dX8_count_78 ?_
        refine lv_topi (fun x_7 ex_7 => ?_)
        obtain rfl : x_7 = (-1) := ex_7
        refine lv_if_ge (tgt := 86) hx hb dX8_count_79 (by decide) (fun c9 => absurd c9 (by decide)) (fun _ => ?_)
        refine lv_iconst (v := 0) hx hb dX8_count_82 (by decide) ?_
        refine lv_goto (tgt := 87) hx hb dX8_count_83 (by decide) ?_
        refine lv_iadd hx hb dX8_count_87 ?_
        refine lv_topi (fun x_8 ex_8 => ?_)
        obtain rfl : x_8 = 0 := ex_8.trans (by decide)
        refine lv_istore_n (lv' := [(2, .int 0), (3, .int 2), (0, .ref h), (1, .int 0)]) hx hb dX8_count_88 rfl hl (by decide) rfl (fun ls hl => ?_)
        refine lv_iinc (v := 3) (lv' := [(3, .int 3), (2, .int 0), (0, .ref h), (1, .int 0)]) hx hb dX8_count_89 hl (k := 1) rfl (by decide) (by decide) rfl (fun ls hl => ?_)
        refine lv_goto (tgt := 66) hx hb dX8_count_92 (by decide) ?_
        refine lv_iload_n hx hb dX8_count_66 rfl (lv_at hl 0 rfl) ?_
        refine lv_bipush (v := 8) hx hb dX8_count_67 (by decide) ?_
        refine lv_icmp_ge (tgt := 95) hx hb dX8_count_69 (by decide) (fun c9 => absurd c9 (by decide)) (fun _ => ?_)
        refine lv_iload_n hx hb dX8_count_72 rfl (lv_at hl 1 rfl) ?_
        refine lv_aload_n hx hb dX8_count_73 rfl (lv_at hl 2 rfl) ?_
        refine va_get (D := D) (ci := 7) (v := .ref zs) (C := RX8) (T := TX8) (N := 16) hx hb hts (fun _ h => List.mem_cons_of_mem _ (List.mem_append_right _ h)) hown hK hP 0 rfl rfl 2 (by decide) (hts (.fieldLink RX8 13 "WinterWalkModel" "size" "[I") (List.mem_of_getElem? (i := 3) rfl)) (fun _ h9 => h9) rfl dX8_count_74 ?_
        refine lv_iload_n hx hb dX8_count_77 rfl (lv_at hl 0 rfl) ?_
        refine va_iald hx hb hK hP 2 0 rfl rfl (zi_in (by decide) (by decide)) dX8_count_78 ?_
        refine lv_topi (fun x_9 ex_9 => ?_)
        obtain rfl : x_9 = (-1) := ex_9
        refine lv_if_ge (tgt := 86) hx hb dX8_count_79 (by decide) (fun c9 => absurd c9 (by decide)) (fun _ => ?_)
        refine lv_iconst (v := 0) hx hb dX8_count_82 (by decide) ?_
        refine lv_goto (tgt := 87) hx hb dX8_count_83 (by decide) ?_
        refine lv_iadd hx hb dX8_count_87 ?_
        refine lv_topi (fun x_10 ex_10 => ?_)
        obtain rfl : x_10 = 0 := ex_10.trans (by decide)
        refine lv_istore_n (lv' := [(2, .int 0), (3, .int 3), (0, .ref h), (1, .int 0)]) hx hb dX8_count_88 rfl hl (by decide) rfl (fun ls hl => ?_)
        refine lv_iinc (v := 4) (lv' := [(3, .int 4), (2, .int 0), (0, .ref h), (1, .int 0)]) hx hb dX8_count_89 hl (k := 1) rfl (by decide) (by decide) rfl (fun ls hl => ?_)
        refine lv_goto (tgt := 66) hx hb dX8_count_92 (by decide) ?_
        refine lv_iload_n hx hb dX8_count_66 rfl (lv_at hl 0 rfl) ?_
        refine lv_bipush (v := 8) hx hb dX8_count_67 (by decide) ?_
        refine lv_icmp_ge (tgt := 95) hx hb dX8_count_69 (by decide) (fun c9 => absurd c9 (by decide)) (fun _ => ?_)
        refine lv_iload_n hx hb dX8_count_72 rfl (lv_at hl 1 rfl) ?_
        refine lv_aload_n hx hb dX8_count_73 rfl (lv_at hl 2 rfl) ?_
        refine va_get (D := D) (ci := 7) (v := .ref zs) (C := RX8) (T := TX8) (N := 16) hx hb hts (fun _ h => List.mem_cons_of_mem _ (List.mem_append_right _ h)) hown hK hP 0 rfl rfl 2 (by decide) (hts (.fieldLink RX8 13 "WinterWalkModel" "size" "[I") (List.mem_of_getElem? (i := 3) rfl)) (fun _ h9 => h9) rfl dX8_count_74 ?_
        refine lv_iload_n hx hb dX8_count_77 rfl (lv_at hl 0 rfl) ?_
        refine va_iald hx hb hK hP 2 0 rfl rfl (zi_in (by decide) (by decide)) dX8_count_78 ?_
        refine lv_topi (fun x_11 ex_11 => ?_)
        obtain rfl : x_11 = (-1) := ex_11
        refine lv_if_ge (tgt := 86) hx hb dX8_count_79 (by decide) (fun c9 => absurd c9 (by decide)) (fun _ => ?_)
        refine lv_iconst (v := 0) hx hb dX8_count_82 (by decide) ?_
        refine lv_goto (tgt := 87) hx hb dX8_count_83 (by decide) ?_
        refine lv_iadd hx hb dX8_count_87 ?_
        refine lv_topi (fun x_12 ex_12 => ?_)
        obtain rfl : x_12 = 0 := ex_12.trans (by decide)
        refine lv_istore_n (lv' := [(2, .int 0), (3, .int 4), (0, .ref h), (1, .int 0)]) hx hb dX8_count_88 rfl hl (by decide) rfl (fun ls hl => ?_)
        refine lv_iinc (v := 5) (lv' := [(3, .int 5), (2, .int 0), (0, .ref h), (1, .int 0)]) hx hb dX8_count_89 hl (k := 1) rfl (by decide) (by decide) rfl (fun ls hl => ?_)
        refine lv_goto (tgt := 66) hx hb dX8_count_92 (by decide) ?_
        refine lv_iload_n hx hb dX8_count_66 rfl (lv_at hl 0 rfl) ?_
        refine lv_bipush (v := 8) hx hb dX8_count_67 (by decide) ?_
        refine lv_icmp_ge (tgt := 95) hx hb dX8_count_69 (by decide) (fun c9 => absurd c9 (by decide)) (fun _ => ?_)
        refine lv_iload_n hx hb dX8_count_72 rfl (lv_at hl 1 rfl) ?_
        refine lv_aload_n hx hb dX8_count_73 rfl (lv_at hl 2 rfl) ?_
        refine va_get (D := D) (ci := 7) (v := .ref zs) (C := RX8) (T := TX8) (N := 16) hx hb hts (fun _ h => List.mem_cons_of_mem _ (List.mem_append_right _ h)) hown hK hP 0 rfl rfl 2 (by decide) (hts (.fieldLink RX8 13 "WinterWalkModel" "size" "[I") (List.mem_of_getElem? (i := 3) rfl)) (fun _ h9 => h9) rfl dX8_count_74 ?_
        refine lv_iload_n hx hb dX8_count_77 rfl (lv_at hl 0 rfl) ?_
        refine va_iald hx hb hK hP 2 0 rfl rfl (zi_in (by decide) (by decide)) dX8_count_78 ?_
        refine lv_topi (fun x_13 ex_13 => ?_)
        obtain rfl : x_13 = (-1) := ex_13
        refine lv_if_ge (tgt := 86) hx hb dX8_count_79 (by decide) (fun c9 => absurd c9 (by decide)) (fun _ => ?_)
        refine lv_iconst (v := 0) hx hb dX8_count_82 (by decide) ?_
        refine lv_goto (tgt := 87) hx hb dX8_count_83 (by decide) ?_
        refine lv_iadd hx hb dX8_count_87 ?_
        refine lv_topi (fun x_14 ex_14 => ?_)
        obtain rfl : x_14 = 0 := ex_14.trans (by decide)
        refine lv_istore_n (lv' := [(2, .int 0), (3, .int 5), (0, .ref h), (1, .int 0)]) hx hb dX8_count_88 rfl hl (by decide) rfl (fun ls hl => ?_)
        refine lv_iinc (v := 6) (lv' := [(3, .int 6), (2, .int 0), (0, .ref h), (1, .int 0)]) hx hb dX8_count_89 hl (k := 1) rfl (by decide) (by decide) rfl (fun ls hl => ?_)
        refine lv_goto (tgt := 66) hx hb dX8_count_92 (by decide) ?_
        refine lv_iload_n hx hb dX8_count_66 rfl (lv_at hl 0 rfl) ?_
        refine lv_bipush (v := 8) hx hb dX8_count_67 (by decide) ?_
        refine lv_icmp_ge (tgt := 95) hx hb dX8_count_69 (by decide) (fun c9 => absurd c9 (by decide)) (fun _ => ?_)
        refine lv_iload_n hx hb dX8_count_72 rfl (lv_at hl 1 rfl) ?_
        refine lv_aload_n hx hb dX8_count_73 rfl (lv_at hl 2 rfl) ?_
        refine va_get (D := D) (ci := 7) (v := .ref zs) (C := RX8) (T := TX8) (N := 16) hx hb hts (fun _ h => List.mem_cons_of_mem _ (List.mem_append_right _ h)) hown hK hP 0 rfl rfl 2 (by decide) (hts (.fieldLink RX8 13 "WinterWalkModel" "size" "[I") (List.mem_of_getElem? (i := 3) rfl)) (fun _ h9 => h9) rfl dX8_count_74 ?_
        refine lv_iload_n hx hb dX8_count_77 rfl (lv_at hl 0 rfl) ?_
        refine va_iald hx hb hK hP 2 0 rfl rfl (zi_in (by decide) (by decide)) dX8_count_78 ?_
        refine lv_topi (fun x_15 ex_15 => ?_)
        obtain rfl : x_15 = (-1) := ex_15
        refine lv_if_ge (tgt := 86) hx hb dX8_count_79 (by decide) (fun c9 => absurd c9 (by decide)) (fun _ => ?_)
        refine lv_iconst (v := 0) hx hb dX8_count_82 (by decide) ?_
        refine lv_goto (tgt := 87) hx hb dX8_count_83 (by decide) ?_
        refine lv_iadd hx hb dX8_count_87 ?_
        refine lv_topi (fun x_16 ex_16 => ?_)
        obtain rfl : x_16 = 0 := ex_16.trans (by decide)
        refine lv_istore_n (lv' := [(2, .int 0), (3, .int 6), (0, .ref h), (1, .int 0)]) hx hb dX8_count_88 rfl hl (by decide) rfl (fun ls hl => ?_)
        refine lv_iinc (v := 7) (lv' := [(3, .int 7), (2, .int 0), (0, .ref h), (1, .int 0)]) hx hb dX8_count_89 hl (k := 1) rfl (by decide) (by decide) rfl (fun ls hl => ?_)
        refine lv_goto (tgt := 66) hx hb dX8_count_92 (by decide) ?_
        refine lv_iload_n hx hb dX8_count_66 rfl (lv_at hl 0 rfl) ?_
        refine lv_bipush (v := 8) hx hb dX8_count_67 (by decide) ?_
        refine lv_icmp_ge (tgt := 95) hx hb dX8_count_69 (by decide) (fun c9 => absurd c9 (by decide)) (fun _ => ?_)
        refine lv_iload_n hx hb dX8_count_72 rfl (lv_at hl 1 rfl) ?_
        refine lv_aload_n hx hb dX8_count_73 rfl (lv_at hl 2 rfl) ?_
        refine va_get (D := D) (ci := 7) (v := .ref zs) (C := RX8) (T := TX8) (N := 16) hx hb hts (fun _ h => List.mem_cons_of_mem _ (List.mem_append_right _ h)) hown hK hP 0 rfl rfl 2 (by decide) (hts (.fieldLink RX8 13 "WinterWalkModel" "size" "[I") (List.mem_of_getElem? (i := 3) rfl)) (fun _ h9 => h9) rfl dX8_count_74 ?_
        refine lv_iload_n hx hb dX8_count_77 rfl (lv_at hl 0 rfl) ?_
        refine va_iald hx hb hK hP 2 0 rfl rfl (zi_in (by decide) (by decide)) dX8_count_78 ?_
        refine lv_topi (fun x_17 ex_17 => ?_)
        obtain rfl : x_17 = (-1) := ex_17
        refine lv_if_ge (tgt := 86) hx hb dX8_count_79 (by decide) (fun c9 => absurd c9 (by decide)) (fun _ => ?_)
        refine lv_iconst (v := 0) hx hb dX8_count_82 (by decide) ?_
        refine lv_goto (tgt := 87) hx hb dX8_count_83 (by decide) ?_
        refine lv_iadd hx hb dX8_count_87 ?_
        refine lv_topi (fun x_18 ex_18 => ?_)
        obtain rfl : x_18 = 0 := ex_18.trans (by decide)
        refine lv_istore_n (lv' := [(2, .int 0), (3, .int 7), (0, .ref h), (1, .int 0)]) hx hb dX8_count_88 rfl hl (by decide) rfl (fun ls hl => ?_)
        refine lv_iinc (v := 8) (lv' := [(3, .int 8), (2, .int 0), (0, .ref h), (1, .int 0)]) hx hb dX8_count_89 hl (k := 1) rfl (by decide) (by decide) rfl (fun ls hl => ?_)
        refine lv_goto (tgt := 66) hx hb dX8_count_92 (by decide) ?_
        refine lv_iload_n hx hb dX8_count_66 rfl (lv_at hl 0 rfl) ?_
        refine lv_bipush (v := 8) hx hb dX8_count_67 (by decide) ?_
        refine lv_icmp_ge (tgt := 95) hx hb dX8_count_69 (by decide) (fun _ => ?_) (fun c9 => absurd (by decide) c9)
        refine lv_iload_n hx hb dX8_count_95 rfl (lv_at hl 1 rfl) ?_
        exact wr_i (v := 0) hx hb hr hlocks hS () (by unfold sp_count; (repeat' split) <;> first | rfl | (exfalso; omega)) (hP.sub [] rfl) (hD.sub [] (by decide) rfl) dX8_count_96
      · obtain rfl : p0 = 1 := Int32.toInt_inj.mp f_2
        refine lv_tableIn (off := 79) (tgt := 97) hx hb dX8_count_18 (by decide) (by decide) rfl (by decide) ?_
        refine lv_aload_n hx hb dX8_count_97 rfl (lv_at hl 1 rfl) ?_
        refine va_get (D := D) (ci := 7) (v := .ref sl) (C := RX8) (T := TX8) (N := 16) hx hb hts (fun _ h => List.mem_cons_of_mem _ (List.mem_append_right _ h)) hown hK hP 0 rfl rfl 0 (by decide) (hts (.fieldLink RX8 7 "WinterWalkModel" "slot" "[I") (List.mem_of_getElem? (i := 4) rfl)) (fun _ h9 => h9) rfl dX8_count_98 ?_
        refine lv_iconst (v := 1) hx hb dX8_count_101 (by decide) ?_
        refine va_iald hx hb hK hP 1 0 rfl rfl (zi_in (by decide) (by decide)) dX8_count_102 ?_
        refine lv_topi (fun x_19 ex_19 => ?_)
        obtain rfl : x_19 = 0 := ex_19
        exact wr_i (v := 0) hx hb hr hlocks hS () (by unfold sp_count; (repeat' split) <;> first | rfl | (exfalso; omega)) (hP.sub [] rfl) (hD.sub [] (by decide) rfl) dX8_count_103
      · obtain rfl : p0 = 2 := Int32.toInt_inj.mp f_2
        refine lv_tableIn (off := 86) (tgt := 104) hx hb dX8_count_18 (by decide) (by decide) rfl (by decide) ?_
        refine lv_aload_n hx hb dX8_count_104 rfl (lv_at hl 1 rfl) ?_
        refine va_get (D := D) (ci := 7) (v := .ref sl) (C := RX8) (T := TX8) (N := 16) hx hb hts (fun _ h => List.mem_cons_of_mem _ (List.mem_append_right _ h)) hown hK hP 0 rfl rfl 0 (by decide) (hts (.fieldLink RX8 7 "WinterWalkModel" "slot" "[I") (List.mem_of_getElem? (i := 4) rfl)) (fun _ h9 => h9) rfl dX8_count_105 ?_
        refine lv_iconst (v := 3) hx hb dX8_count_108 (by decide) ?_
        refine va_iald hx hb hK hP 1 0 rfl rfl (zi_in (by decide) (by decide)) dX8_count_109 ?_
        refine lv_topi (fun x_20 ex_20 => ?_)
        obtain rfl : x_20 = 0 := ex_20
        exact wr_i (v := 0) hx hb hr hlocks hS () (by unfold sp_count; (repeat' split) <;> first | rfl | (exfalso; omega)) (hP.sub [] rfl) (hD.sub [] (by decide) rfl) dX8_count_110
      · obtain rfl : p0 = 3 := Int32.toInt_inj.mp f_2
        refine lv_tableIn (off := 93) (tgt := 111) hx hb dX8_count_18 (by decide) (by decide) rfl (by decide) ?_
        refine lv_aload_n hx hb dX8_count_111 rfl (lv_at hl 1 rfl) ?_
        refine va_get (D := D) (ci := 7) (v := .ref sl) (C := RX8) (T := TX8) (N := 16) hx hb hts (fun _ h => List.mem_cons_of_mem _ (List.mem_append_right _ h)) hown hK hP 0 rfl rfl 0 (by decide) (hts (.fieldLink RX8 7 "WinterWalkModel" "slot" "[I") (List.mem_of_getElem? (i := 4) rfl)) (fun _ h9 => h9) rfl dX8_count_112 ?_
        refine lv_iconst (v := 2) hx hb dX8_count_115 (by decide) ?_
        refine va_iald hx hb hK hP 1 0 rfl rfl (zi_in (by decide) (by decide)) dX8_count_116 ?_
        refine lv_topi (fun x_21 ex_21 => ?_)
        obtain rfl : x_21 = 0 := ex_21
        exact wr_i (v := 0) hx hb hr hlocks hS () (by unfold sp_count; (repeat' split) <;> first | rfl | (exfalso; omega)) (hP.sub [] rfl) (hD.sub [] (by decide) rfl) dX8_count_117
      · obtain rfl : p0 = 4 := Int32.toInt_inj.mp f_2
        refine lv_tableIn (off := 100) (tgt := 118) hx hb dX8_count_18 (by decide) (by decide) rfl (by decide) ?_
        refine lv_aload_n hx hb dX8_count_118 rfl (lv_at hl 1 rfl) ?_
        refine va_get (D := D) (ci := 7) (v := .ref sl) (C := RX8) (T := TX8) (N := 16) hx hb hts (fun _ h => List.mem_cons_of_mem _ (List.mem_append_right _ h)) hown hK hP 0 rfl rfl 0 (by decide) (hts (.fieldLink RX8 7 "WinterWalkModel" "slot" "[I") (List.mem_of_getElem? (i := 4) rfl)) (fun _ h9 => h9) rfl dX8_count_119 ?_
        refine lv_bipush (v := 54) hx hb dX8_count_122 (by decide) ?_
        refine va_iald hx hb hK hP 1 0 rfl rfl (zi_in (by decide) (by decide)) dX8_count_124 ?_
        refine lv_topi (fun x_22 ex_22 => ?_)
        obtain rfl : x_22 = 0 := ex_22
        exact wr_i (v := 0) hx hb hr hlocks hS () (by unfold sp_count; (repeat' split) <;> first | rfl | (exfalso; omega)) (hP.sub [] rfl) (hD.sub [] (by decide) rfl) dX8_count_125
      · obtain rfl : p0 = 5 := Int32.toInt_inj.mp f_2
        refine lv_tableIn (off := 108) (tgt := 126) hx hb dX8_count_18 (by decide) (by decide) rfl (by decide) ?_
        refine lv_aload_n hx hb dX8_count_126 rfl (lv_at hl 1 rfl) ?_
        refine va_get (D := D) (ci := 7) (v := .ref sl) (C := RX8) (T := TX8) (N := 16) hx hb hts (fun _ h => List.mem_cons_of_mem _ (List.mem_append_right _ h)) hown hK hP 0 rfl rfl 0 (by decide) (hts (.fieldLink RX8 7 "WinterWalkModel" "slot" "[I") (List.mem_of_getElem? (i := 4) rfl)) (fun _ h9 => h9) rfl dX8_count_127 ?_
        refine lv_bipush (v := 55) hx hb dX8_count_130 (by decide) ?_
        refine va_iald hx hb hK hP 1 0 rfl rfl (zi_in (by decide) (by decide)) dX8_count_132 ?_
        refine lv_topi (fun x_23 ex_23 => ?_)
        obtain rfl : x_23 = 0 := ex_23
        exact wr_i (v := 0) hx hb hr hlocks hS () (by unfold sp_count; (repeat' split) <;> first | rfl | (exfalso; omega)) (hP.sub [] rfl) (hD.sub [] (by decide) rfl) dX8_count_133
      · obtain rfl : p0 = 6 := Int32.toInt_inj.mp f_2
        refine lv_tableIn (off := 116) (tgt := 134) hx hb dX8_count_18 (by decide) (by decide) rfl (by decide) ?_
        refine lv_aload_n hx hb dX8_count_134 rfl (lv_at hl 1 rfl) ?_
        refine va_get (D := D) (ci := 7) (v := .ref sl) (C := RX8) (T := TX8) (N := 16) hx hb hts (fun _ h => List.mem_cons_of_mem _ (List.mem_append_right _ h)) hown hK hP 0 rfl rfl 0 (by decide) (hts (.fieldLink RX8 7 "WinterWalkModel" "slot" "[I") (List.mem_of_getElem? (i := 4) rfl)) (fun _ h9 => h9) rfl dX8_count_135 ?_
        refine lv_bipush (v := 56) hx hb dX8_count_138 (by decide) ?_
        refine va_iald hx hb hK hP 1 0 rfl rfl (zi_in (by decide) (by decide)) dX8_count_140 ?_
        refine lv_topi (fun x_24 ex_24 => ?_)
        obtain rfl : x_24 = 0 := ex_24
        exact wr_i (v := 0) hx hb hr hlocks hS () (by unfold sp_count; (repeat' split) <;> first | rfl | (exfalso; omega)) (hP.sub [] rfl) (hD.sub [] (by decide) rfl) dX8_count_141
      · obtain rfl : p0 = 7 := Int32.toInt_inj.mp f_2
        refine lv_tableIn (off := 124) (tgt := 142) hx hb dX8_count_18 (by decide) (by decide) rfl (by decide) ?_
        refine lv_aload_n hx hb dX8_count_142 rfl (lv_at hl 1 rfl) ?_
        refine va_get (D := D) (ci := 7) (v := .int 0) (C := RX8) (T := TX8) (N := 16) hx hb hts (fun _ h => List.mem_cons_of_mem _ (List.mem_append_right _ h)) hown hK hP 0 rfl rfl 1 (by decide) (hts (.fieldLink RX8 118 "WinterWalkModel" "acts" "I") (List.mem_of_getElem? (i := 5) rfl)) (fun _ h9 => h9) rfl dX8_count_143 ?_
        exact wr_i (v := 0) hx hb hr hlocks hS () (by unfold sp_count; (repeat' split) <;> first | rfl | (exfalso; omega)) (hP.sub [] rfl) (hD.sub [] (by decide) rfl) dX8_count_146
  · subst e_1
    have f_1 : ¬ (0 ≤ p0.toInt ∧ p0.toInt ≤ 8) := by
      have h8 := f_1
      try rw [zl_of] at h8
      exact h8
    refine lv_if_ne (tgt := 15) hx hb dX8_count_9 (by decide) (fun c9 => absurd (by decide) c9) (fun _ => ?_)
    refine lv_ldc (v := (-1000001)) hx hb hown (hts (.constant RX8 48 (-1000001)) (List.mem_of_getElem? (i := 2) rfl)) dX8_count_12 ?_
    exact wr_i (v := (-1000001)) hx hb hr hlocks hS () (by unfold sp_count; (repeat' split) <;> first | rfl | (exfalso; omega)) (hP.sub [] rfl) (hD.sub [] (by decide) rfl) dX8_count_14
set_option maxHeartbeats 4000000 in
set_option maxRecDepth 100000 in
theorem km_status (l : Launch) (D : va_G) (cI cB cQ : ClassId) (sz : Nat) (h : Nat) (sl : Nat) (zs : Nat) (ln : Nat) (ir : Nat) (tk : Nat) (tb : Nat) (tr : Nat) (fz : Nat) : mi l yX8_status wsX8_status ({ frames := 0, cells := 0, slots := 0, locals := 0 }) D cI cB cQ [.ref h] sz [(h, .inr (7, [.ref sl, .int 0, .ref zs, .ref ln, .ref ir, .ref tk, .int 0, .int 0, .ref tb, .int 0, .int 0, .int 0, .ref tr, .int 0, .ref fz, .int 0]))] (fun (r : Int32) (_u : Unit) => r = 0) (fun _ => []) 0 0 := by
  refine wm_i (cc := cX8_status) (maxL := 1) (ret := (some .int)) (by decide) rfl (Nat.le_of_ble_eq_true rfl) ?_
  intro p e s m below meth c A ls hx hb hr hml hown hts hlocks hin hP hK hD hN hA hl hS
  have hown : s.vm.findClass RX8 = some m.cls := hown
  have hl : lv_has ls 1 [(0, .ref h)] := hl
  change W p l e ({ frames := 0, cells := 0, slots := 0, locals := 0 }) s m ([.ref h] : List Value).toArray below meth c s.heap [] 0 0 (MQ below (va_Qi (fun (r : Int32) (_u : Unit) => r = 0) (fun u t => wb D A ((fun _ => []) u) t) A) ([.ref h] : List Value).toArray s 0 0 A) (F0 m 0 ls [])
  refine lv_aload_n hx hb dX8_status_0 rfl (lv_at hl 0 rfl) ?_
  refine va_get (D := D) (ci := 7) (v := .int 0) (C := RX8) (T := TX8) (N := 16) hx hb hts (fun _ h => List.mem_cons_of_mem _ (List.mem_append_right _ h)) hown hK hP 0 rfl rfl 6 (by decide) (hts (.fieldLink RX8 35 "WinterWalkModel" "status" "I") (List.mem_of_getElem? (i := 1) rfl)) (fun _ h9 => h9) rfl dX8_status_1 ?_
  exact wr_i (v := 0) hx hb hr hlocks hS () (by rfl) (hP.sub [] rfl) (hD.sub [] (by decide) rfl) dX8_status_4
