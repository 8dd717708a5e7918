set_option maxHeartbeats 4000000 in
set_option maxRecDepth 100000 in
theorem g_X8_isVillageThere (l : Launch) (D : va_G) (cI cB cQ : ClassId) (sz : Nat) (h : Nat) (sl : Nat) (zs : Nat) (ln : Nat) (ir : Nat) (tk : Nat) (tb : Nat) (tr : Nat) (fz : Nat) (na : Int32) (su : Int32) (le : Int32) (fu : Int32) (ap : Int32) (pp : Int32) (tc : Int32) (nm : Int32) (v : Int32) (sf : Nat → Int32) (v0 : Int) (hsi : SI sf v0) : mi l yX8_isVillageThere wsX8_isVillageThere ({ frames := 1, cells := 0, slots := 0, locals := 25 }) D cI cB cQ [.ref h, .int v] sz [(h, .inr (7, [.ref sl, .int na, .ref zs, .ref ln, .ref ir, .ref tk, .int su, .int le, .ref tb, .int fu, .int ap, .int pp, .ref tr, .int tc, .ref fz, .int nm])), (sl, .inl (cI, 1653, .inl sf))] (fun (r : Int32) (_u : Unit) => ((r = 1 ∧ 0 ≤ v.toInt ∧ v.toInt ≤ 7 ∧ v.toInt < v0) ∨ (r = 0))) (fun _ => [(h, .inr (7, [.ref sl, .int na, .ref zs, .ref ln, .ref ir, .ref tk, .int su, .int le, .ref tb, .int fu, .int ap, .int pp, .ref tr, .int tc, .ref fz, .int nm])), (sl, .inl (cI, 1653, .inl sf))]) 0 0 := by
  refine wm_i (cc := cX8_isVillageThere) (maxL := 2) (ret := (some .boolean)) (by decide) rfl (Nat.le_of_ble_eq_true rfl) ?_
  intro p e s m below meth c A ls hx hb hr hml hown hts hlocks hin hP hK hD hN hA hl hS
  have hown : s.vm.findClass RX8 = some m.cls := hown
  have hl : lv_has ls 2 [(0, .ref h), (1, .int v)] := hl
  change W p l e ({ frames := 1, cells := 0, slots := 0, locals := 25 }) s m ([.ref h, .int v] : List Value).toArray below meth c s.heap [] 0 0 (MQ below (va_Qi (fun (r : Int32) (_u : Unit) => ((r = 1 ∧ 0 ≤ v.toInt ∧ v.toInt ≤ 7 ∧ v.toInt < v0) ∨ (r = 0))) (fun u t => wb D A ((fun _ => [(h, .inr (7, [.ref sl, .int na, .ref zs, .ref ln, .ref ir, .ref tk, .int su, .int le, .ref tb, .int fu, .int ap, .int pp, .ref tr, .int tc, .ref fz, .int nm])), (sl, .inl (cI, 1653, .inl sf))]) u) t) A) ([.ref h, .int v] : List Value).toArray s 0 0 A) (F0 m 0 ls [])
  refine lv_iload_n hx hb dX8_isVillageThere_0 rfl (lv_at hl 1 rfl) ?_
  refine lv_i2l (v := (v.toInt64)) hx hb dX8_isVillageThere_1 rfl ?_
  refine lv_lconst (v := 0) hx hb dX8_isVillageThere_2 (by decide) ?_
  refine lv_aload_n hx hb dX8_isVillageThere_3 rfl (lv_at hl 0 rfl) ?_
  refine va_get (D := D) (ci := 7) (v := .ref sl) (C := RX8) (T := TX8) (N := 16) hx hb hts (fun _ h => List.mem_cons_of_mem _ (List.mem_append_right _ h)) hown hK hP 0 rfl rfl 0 (by decide) (hts (.fieldLink RX8 7 "WinterWalkModel" "slot" "[I") (List.mem_of_getElem? (i := 1) rfl)) (fun _ h9 => h9) rfl dX8_isVillageThere_4 ?_
  refine lv_iconst (v := 1) hx hb dX8_isVillageThere_7 (by decide) ?_
  refine va_iald hx hb hK hP 1 0 rfl rfl (zi_in (by decide) (by decide)) dX8_isVillageThere_8 ?_
  refine lv_topi (fun x_1 ex_1 => ?_)
  have f_1 : 0 ≤ x_1.toInt ∧ x_1.toInt ≤ 8 := by rw [ex_1]; exact si_v hsi (s := 0) (by decide) (by omega)
  have g_1 : x_1.toInt = v0 := by rw [ex_1]; exact hsi.2
  refine lv_iconst (v := 1) hx hb dX8_isVillageThere_9 (by decide) ?_
  refine lv_isub hx hb dX8_isVillageThere_10 ?_
  refine lv_topi (fun x_2 ex_2 => ?_)
  have e_2 : x_2.toInt = x_1.toInt - 1 := by rw [ex_2]; exact zi_sub (rfl) (by decide) (by omega) (by omega)
  clear ex_2
  refine lv_i2l (v := (x_2.toInt64)) hx hb dX8_isVillageThere_11 rfl ?_
  have k_3 := (g_X8_in l D cI cB cQ s.heap.size (v.toInt64) 0 (x_2.toInt64))
  refine wc_i (WC := []) (WR := [(h, .inr (7, [.ref sl, .int na, .ref zs, .ref ln, .ref ir, .ref tk, .int su, .int le, .ref tb, .int fu, .int ap, .int pp, .ref tr, .int tc, .ref fz, .int nm])), (sl, .inl (cI, 1653, .inl sf))]) (va_runS (As := [.long (v.toInt64), .long 0, .long (x_2.toInt64)]) (rest := []) ⟨hx, hb, hml, hown, hts⟩ k_3 (va_cwS 3 hts gX8_isVillageThere_X8_in rfl rfl rfl (by decide +kernel) ⟨Nat.le_of_ble_eq_true rfl, Nat.le_of_ble_eq_true rfl⟩) (wp_S hP hK hD hN [] (by decide) rfl) rfl rfl hl.1 rfl (lv_room (Nat.le_of_ble_eq_true rfl)) dX8_isVillageThere_12 ⟨Nat.le_of_ble_eq_true rfl, Nat.le_of_ble_eq_true rfl⟩) hP hD hS hA [] [0, 1] rfl rfl (by decide) (by decide) (fun r_3 u_3 H locs hw_3 hP hD hS => ?_)
  clear k_3
  have hP : va_P D kl [(h, .inr (7, [.ref sl, .int na, .ref zs, .ref ln, .ref ir, .ref tk, .int su, .int le, .ref tb, .int fu, .int ap, .int pp, .ref tr, .int tc, .ref fz, .int nm])), (sl, .inl (cI, 1653, .inl sf))] H := hP
  have hD : va_D A [(h, .inr (7, [.ref sl, .int na, .ref zs, .ref ln, .ref ir, .ref tk, .int su, .int le, .ref tb, .int fu, .int ap, .int pp, .ref tr, .int tc, .ref fz, .int nm])), (sl, .inl (cI, 1653, .inl sf))] := hD
  have c3_0 := hw_3
  rcases c3_0 with ⟨e_3, f_3⟩ | ⟨e_3, f_3⟩
  · subst e_3
    have f_3 : (0 : Int) ≤ v.toInt ∧ v.toInt ≤ x_2.toInt := by
      have h8 := f_3
      try simp only [zl_of] at h8
      exact h8
    exact wr_z (v := 1) hx hb hr hlocks hS () (by exact Or.inl ⟨rfl, show 0 ≤ v.toInt ∧ v.toInt ≤ 7 ∧ v.toInt < v0 from by omega⟩) (hP.sub [0, 1] rfl) (hD.sub [0, 1] (by decide) rfl) dX8_isVillageThere_15 rfl
  · subst e_3
    have f_3 : ¬ ((0 : Int) ≤ v.toInt ∧ v.toInt ≤ x_2.toInt) := by
      have h8 := f_3
      try simp only [zl_of] at h8
      exact h8
    exact wr_z (v := 0) hx hb hr hlocks hS () (by exact Or.inr (rfl)) (hP.sub [0, 1] rfl) (hD.sub [0, 1] (by decide) rfl) dX8_isVillageThere_15 rfl
set_option maxHeartbeats 4000000 in
set_option maxRecDepth 100000 in
theorem g_X8_isWalkerThere (l : Launch) (D : va_G) (cI cB cQ : ClassId) (sz : Nat) (h : Nat) (sl : Nat) (zs : Nat) (ln : Nat) (ir : Nat) (tk : Nat) (tb : Nat) (tr : Nat) (fz : Nat) (na : Int32) (su : Int32) (le : Int32) (fu : Int32) (ap : Int32) (pp : Int32) (tc : Int32) (nm : Int32) (v : Int32) (sf : Nat → Int32) (v0 : Int) (hsi : SI sf v0) : mi l yX8_isWalkerThere wsX8_isWalkerThere ({ frames := 1, cells := 0, slots := 0, locals := 25 }) D cI cB cQ [.ref h, .int v] sz [(h, .inr (7, [.ref sl, .int na, .ref zs, .ref ln, .ref ir, .ref tk, .int su, .int le, .ref tb, .int fu, .int ap, .int pp, .ref tr, .int tc, .ref fz, .int nm])), (sl, .inl (cI, 1653, .inl sf))] (fun (r : Int32) (_u : Unit) => ((r = 1 ∧ 0 ≤ v.toInt ∧ v.toInt ≤ 2) ∨ (r = 0))) (fun _ => [(h, .inr (7, [.ref sl, .int na, .ref zs, .ref ln, .ref ir, .ref tk, .int su, .int le, .ref tb, .int fu, .int ap, .int pp, .ref tr, .int tc, .ref fz, .int nm])), (sl, .inl (cI, 1653, .inl sf))]) 0 0 := by
  refine wm_i (cc := cX8_isWalkerThere) (maxL := 2) (ret := (some .boolean)) (by decide) rfl (Nat.le_of_ble_eq_true rfl) ?_
  intro p e s m below meth c A ls hx hb hr hml hown hts hlocks hin hP hK hD hN hA hl hS
  have hown : s.vm.findClass RX8 = some m.cls := hown
  have hl : lv_has ls 2 [(0, .ref h), (1, .int v)] := hl
  change W p l e ({ frames := 1, cells := 0, slots := 0, locals := 25 }) s m ([.ref h, .int v] : List Value).toArray below meth c s.heap [] 0 0 (MQ below (va_Qi (fun (r : Int32) (_u : Unit) => ((r = 1 ∧ 0 ≤ v.toInt ∧ v.toInt ≤ 2) ∨ (r = 0))) (fun u t => wb D A ((fun _ => [(h, .inr (7, [.ref sl, .int na, .ref zs, .ref ln, .ref ir, .ref tk, .int su, .int le, .ref tb, .int fu, .int ap, .int pp, .ref tr, .int tc, .ref fz, .int nm])), (sl, .inl (cI, 1653, .inl sf))]) u) t) A) ([.ref h, .int v] : List Value).toArray s 0 0 A) (F0 m 0 ls [])
  refine lv_iload_n hx hb dX8_isWalkerThere_0 rfl (lv_at hl 1 rfl) ?_
  refine lv_i2l (v := (v.toInt64)) hx hb dX8_isWalkerThere_1 rfl ?_
  refine lv_lconst (v := 0) hx hb dX8_isWalkerThere_2 (by decide) ?_
  refine lv_aload_n hx hb dX8_isWalkerThere_3 rfl (lv_at hl 0 rfl) ?_
  refine va_get (D := D) (ci := 7) (v := .ref sl) (C := RX8) (T := TX8) (N := 16) hx hb hts (fun _ h => List.mem_cons_of_mem _ (List.mem_append_right _ h)) hown hK hP 0 rfl rfl 0 (by decide) (hts (.fieldLink RX8 7 "WinterWalkModel" "slot" "[I") (List.mem_of_getElem? (i := 1) rfl)) (fun _ h9 => h9) rfl dX8_isWalkerThere_4 ?_
  refine lv_iconst (v := 2) hx hb dX8_isWalkerThere_7 (by decide) ?_
  refine va_iald hx hb hK hP 1 0 rfl rfl (zi_in (by decide) (by decide)) dX8_isWalkerThere_8 ?_
  refine lv_topi (fun x_1 ex_1 => ?_)
  have f_1 : 0 ≤ x_1.toInt ∧ x_1.toInt ≤ 3 := by rw [ex_1]; exact si_w hsi (s := 0) (by decide) (by omega)
  refine lv_iconst (v := 1) hx hb dX8_isWalkerThere_9 (by decide) ?_
  refine lv_isub hx hb dX8_isWalkerThere_10 ?_
  refine lv_topi (fun x_2 ex_2 => ?_)
  have e_2 : x_2.toInt = x_1.toInt - 1 := by rw [ex_2]; exact zi_sub (rfl) (by decide) (by omega) (by omega)
  clear ex_2
  refine lv_i2l (v := (x_2.toInt64)) hx hb dX8_isWalkerThere_11 rfl ?_
  have k_3 := (g_X8_in l D cI cB cQ s.heap.size (v.toInt64) 0 (x_2.toInt64))
  refine wc_i (WC := []) (WR := [(h, .inr (7, [.ref sl, .int na, .ref zs, .ref ln, .ref ir, .ref tk, .int su, .int le, .ref tb, .int fu, .int ap, .int pp, .ref tr, .int tc, .ref fz, .int nm])), (sl, .inl (cI, 1653, .inl sf))]) (va_runS (As := [.long (v.toInt64), .long 0, .long (x_2.toInt64)]) (rest := []) ⟨hx, hb, hml, hown, hts⟩ k_3 (va_cwS 3 hts gX8_isWalkerThere_X8_in rfl rfl rfl (by decide +kernel) ⟨Nat.le_of_ble_eq_true rfl, Nat.le_of_ble_eq_true rfl⟩) (wp_S hP hK hD hN [] (by decide) rfl) rfl rfl hl.1 rfl (lv_room (Nat.le_of_ble_eq_true rfl)) dX8_isWalkerThere_12 ⟨Nat.le_of_ble_eq_true rfl, Nat.le_of_ble_eq_true rfl⟩) hP hD hS hA [] [0, 1] rfl rfl (by decide) (by decide) (fun r_3 u_3 H locs hw_3 hP hD hS => ?_)
  clear k_3
  have hP : va_P D kl [(h, .inr (7, [.ref sl, .int na, .ref zs, .ref ln, .ref ir, .ref tk, .int su, .int le, .ref tb, .int fu, .int ap, .int pp, .ref tr, .int tc, .ref fz, .int nm])), (sl, .inl (cI, 1653, .inl sf))] H := hP
  have hD : va_D A [(h, .inr (7, [.ref sl, .int na, .ref zs, .ref ln, .ref ir, .ref tk, .int su, .int le, .ref tb, .int fu, .int ap, .int pp, .ref tr, .int tc, .ref fz, .int nm])), (sl, .inl (cI, 1653, .inl sf))] := hD
  have c3_0 := hw_3
  rcases c3_0 with ⟨e_3, f_3⟩ | ⟨e_3, f_3⟩
  · subst e_3
    have f_3 : (0 : Int) ≤ v.toInt ∧ v.toInt ≤ x_2.toInt := by
      have h8 := f_3
      try simp only [zl_of] at h8
      exact h8
    exact wr_z (v := 1) hx hb hr hlocks hS () (by exact Or.inl ⟨rfl, show 0 ≤ v.toInt ∧ v.toInt ≤ 2 from by omega⟩) (hP.sub [0, 1] rfl) (hD.sub [0, 1] (by decide) rfl) dX8_isWalkerThere_15 rfl
  · subst e_3
    have f_3 : ¬ ((0 : Int) ≤ v.toInt ∧ v.toInt ≤ x_2.toInt) := by
      have h8 := f_3
      try simp only [zl_of] at h8
      exact h8
    exact wr_z (v := 0) hx hb hr hlocks hS () (by exact Or.inr (rfl)) (hP.sub [0, 1] rfl) (hD.sub [0, 1] (by decide) rfl) dX8_isWalkerThere_15 rfl
set_option maxHeartbeats 4000000 in
set_option maxRecDepth 100000 in
theorem g_X8_open (l : Launch) (D : va_G) (cI cB cQ : ClassId) (sz : Nat) (h : Nat) (sl : Nat) (zs : Nat) (ln : Nat) (ir : Nat) (tk : Nat) (tb : Nat) (tr : Nat) (fz : Nat) (na : Int32) (su : Int32) (le : Int32) (fu : Int32) (ap : Int32) (pp : Int32) (tc : Int32) (nm : Int32) (k : Int32) (v : Int32) (sf : Nat → Int32) (v0 : Int) (hsi : SI sf v0) (h_k : 0 ≤ k.toInt ∧ k.toInt ≤ 28) (h_v : 0 ≤ v.toInt ∧ v.toInt ≤ 7) : mi l yX8_open wsX8_open ({ frames := 0, cells := 0, slots := 0, locals := 0 }) D cI cB cQ [.ref h, .int k, .int v] sz [(h, .inr (7, [.ref sl, .int na, .ref zs, .ref ln, .ref ir, .ref tk, .int su, .int le, .ref tb, .int fu, .int ap, .int pp, .ref tr, .int tc, .ref fz, .int nm])), (sl, .inl (cI, 1653, .inl sf))] (fun (r : Int32) (_u : Unit) => True) (fun _ => [(h, .inr (7, [.ref sl, .int na, .ref zs, .ref ln, .ref ir, .ref tk, .int su, .int le, .ref tb, .int fu, .int ap, .int pp, .ref tr, .int tc, .ref fz, .int nm])), (sl, .inl (cI, 1653, .inl sf))]) 0 0 := by
  refine wm_i (cc := cX8_open) (maxL := 3) (ret := (some .int)) (by decide) rfl (Nat.le_of_ble_eq_true rfl) ?_
  intro p e s m below meth c A ls hx hb hr hml hown hts hlocks hin hP hK hD hN hA hl hS
  have hown : s.vm.findClass RX8 = some m.cls := hown
  have hl : lv_has ls 3 [(0, .ref h), (1, .int k), (2, .int v)] := hl
  change W p l e ({ frames := 0, cells := 0, slots := 0, locals := 0 }) s m ([.ref h, .int k, .int v] : List Value).toArray below meth c s.heap [] 0 0 (MQ below (va_Qi (fun (r : Int32) (_u : Unit) => True) (fun u t => wb D A ((fun _ => [(h, .inr (7, [.ref sl, .int na, .ref zs, .ref ln, .ref ir, .ref tk, .int su, .int le, .ref tb, .int fu, .int ap, .int pp, .ref tr, .int tc, .ref fz, .int nm])), (sl, .inl (cI, 1653, .inl sf))]) u) t) A) ([.ref h, .int k, .int v] : List Value).toArray s 0 0 A) (F0 m 0 ls [])
  refine lv_aload_n hx hb dX8_open_0 rfl (lv_at hl 0 rfl) ?_
  refine va_get (D := D) (ci := 7) (v := .ref sl) (C := RX8) (T := TX8) (N := 16) hx hb hts (fun _ h => List.mem_cons_of_mem _ (List.mem_append_right _ h)) hown hK hP 0 rfl rfl 0 (by decide) (hts (.fieldLink RX8 7 "WinterWalkModel" "slot" "[I") (List.mem_of_getElem? (i := 1) rfl)) (fun _ h9 => h9) rfl dX8_open_1 ?_
  refine lv_iload_n hx hb dX8_open_4 rfl (lv_at hl 1 rfl) ?_
  refine lv_bipush (v := 57) hx hb dX8_open_5 (by decide) ?_
  refine lv_imul hx hb dX8_open_7 ?_
  refine lv_topi (fun x_1 ex_1 => ?_)
  have e_1 : x_1.toInt = k.toInt * 57 := by rw [ex_1]; exact zi_mul (rfl) (by decide) (by omega) (by omega)
  clear ex_1
  refine lv_bipush (v := 12) hx hb dX8_open_8 (by decide) ?_
  refine lv_iadd hx hb dX8_open_10 ?_
  refine lv_topi (fun x_2 ex_2 => ?_)
  have e_2 : x_2.toInt = x_1.toInt + 12 := by rw [ex_2]; exact zi_add (rfl) (by decide) (by omega) (by omega)
  clear ex_2
  refine lv_iload_n hx hb dX8_open_11 rfl (lv_at hl 2 rfl) ?_
  refine lv_iadd hx hb dX8_open_12 ?_
  refine lv_topi (fun x_3 ex_3 => ?_)
  have e_3 : x_3.toInt = x_2.toInt + v.toInt := by rw [ex_3]; exact zi_add (rfl) (rfl) (by omega) (by omega)
  clear ex_3
  refine va_iald hx hb hK hP 1 0 rfl rfl (zi_in (by omega) (by omega)) dX8_open_13 ?_
  refine lv_topi (fun x_4 ex_4 => ?_)
  clear ex_4
  refine lv_aload_n hx hb dX8_open_14 rfl (lv_at hl 0 rfl) ?_
  refine va_get (D := D) (ci := 7) (v := .ref sl) (C := RX8) (T := TX8) (N := 16) hx hb hts (fun _ h => List.mem_cons_of_mem _ (List.mem_append_right _ h)) hown hK hP 0 rfl rfl 0 (by decide) (hts (.fieldLink RX8 7 "WinterWalkModel" "slot" "[I") (List.mem_of_getElem? (i := 1) rfl)) (fun _ h9 => h9) rfl dX8_open_15 ?_
  refine lv_iload_n hx hb dX8_open_18 rfl (lv_at hl 1 rfl) ?_
  refine lv_bipush (v := 57) hx hb dX8_open_19 (by decide) ?_
  refine lv_imul hx hb dX8_open_21 ?_
  refine lv_topi (fun x_5 ex_5 => ?_)
  have e_5 : x_5.toInt = k.toInt * 57 := by rw [ex_5]; exact zi_mul (rfl) (by decide) (by omega) (by omega)
  clear ex_5
  refine lv_bipush (v := 31) hx hb dX8_open_22 (by decide) ?_
  refine lv_iadd hx hb dX8_open_24 ?_
  refine lv_topi (fun x_6 ex_6 => ?_)
  have e_6 : x_6.toInt = x_5.toInt + 31 := by rw [ex_6]; exact zi_add (rfl) (by decide) (by omega) (by omega)
  clear ex_6
  refine va_iald hx hb hK hP 1 0 rfl rfl (zi_in (by omega) (by omega)) dX8_open_25 ?_
  refine lv_topi (fun x_7 ex_7 => ?_)
  clear ex_7
  refine lv_iconst (v := (-1)) hx hb dX8_open_26 (by decide) ?_
  refine lv_ixor hx hb dX8_open_27 ?_
  refine lv_topi (fun x_8 ex_8 => ?_)
  clear ex_8
  refine lv_iand hx hb dX8_open_28 ?_
  refine lv_topi (fun x_9 ex_9 => ?_)
  clear ex_9
  exact wr_i (v := x_9) hx hb hr hlocks hS () (by trivial) (hP.sub [0, 1] rfl) (hD.sub [0, 1] (by decide) rfl) dX8_open_29
set_option maxHeartbeats 4000000 in
set_option maxRecDepth 100000 in
theorem g_X8_dearest (l : Launch) (D : va_G) (cI cB cQ : ClassId) (sz : Nat) (h : Nat) (sl : Nat) (zs : Nat) (ln : Nat) (ir : Nat) (tk : Nat) (tb : Nat) (tr : Nat) (fz : Nat) (na : Int32) (su : Int32) (le : Int32) (fu : Int32) (ap : Int32) (pp : Int32) (tc : Int32) (nm : Int32) (k : Int32) (b : Int32) (v : Int32) (sf : Nat → Int32) (v0 : Int) (hsi : SI sf v0) (h_k : 0 ≤ k.toInt ∧ k.toInt ≤ 28) (h_v : 0 ≤ v.toInt ∧ v.toInt ≤ 7) : mi l yX8_dearest wsX8_dearest ({ frames := 1, cells := 0, slots := 0, locals := 21 }) D cI cB cQ [.ref h, .int k, .int b, .int v] sz [(h, .inr (7, [.ref sl, .int na, .ref zs, .ref ln, .ref ir, .ref tk, .int su, .int le, .ref tb, .int fu, .int ap, .int pp, .ref tr, .int tc, .ref fz, .int nm])), (sl, .inl (cI, 1653, .inl sf))] (fun (r : Int32) (_u : Unit) => (0 ≤ r.toInt ∧ r.toInt ≤ 7)) (fun _ => [(h, .inr (7, [.ref sl, .int na, .ref zs, .ref ln, .ref ir, .ref tk, .int su, .int le, .ref tb, .int fu, .int ap, .int pp, .ref tr, .int tc, .ref fz, .int nm])), (sl, .inl (cI, 1653, .inl sf))]) 0 0 := by
  refine wm_i (cc := cX8_dearest) (maxL := 6) (ret := (some .int)) (by decide) rfl (Nat.le_of_ble_eq_true rfl) ?_
  intro p e s m below meth c A ls hx hb hr hml hown hts hlocks hin hP hK hD hN hA hl hS
  have hown : s.vm.findClass RX8 = some m.cls := hown
  have hl : lv_has ls 6 [(0, .ref h), (1, .int k), (2, .int b), (3, .int v)] := hl
  change W p l e ({ frames := 1, cells := 0, slots := 0, locals := 21 }) s m ([.ref h, .int k, .int b, .int v] : List Value).toArray below meth c s.heap [] 0 0 (MQ below (va_Qi (fun (r : Int32) (_u : Unit) => (0 ≤ r.toInt ∧ r.toInt ≤ 7)) (fun u t => wb D A ((fun _ => [(h, .inr (7, [.ref sl, .int na, .ref zs, .ref ln, .ref ir, .ref tk, .int su, .int le, .ref tb, .int fu, .int ap, .int pp, .ref tr, .int tc, .ref fz, .int nm])), (sl, .inl (cI, 1653, .inl sf))]) u) t) A) ([.ref h, .int k, .int b, .int v] : List Value).toArray s 0 0 A) (F0 m 0 ls [])
  refine lv_iconst (v := (-1)) hx hb dX8_dearest_0 (by decide) ?_
  refine lv_istore (lv' := [(4, .int (-1)), (0, .ref h), (1, .int k), (2, .int b), (3, .int v)]) hx hb dX8_dearest_1 hl (by decide) rfl (fun ls hl => ?_)
  refine lv_iconst (v := 0) hx hb dX8_dearest_3 (by decide) ?_
  refine lv_istore (lv' := [(5, .int 0), (4, .int (-1)), (0, .ref h), (1, .int k), (2, .int b), (3, .int v)]) hx hb dX8_dearest_4 hl (by decide) rfl (fun ls hl => ?_)
  have hL6 : ∀ (nf : Nat) (t5_c6 : Int32) (t4_c6 : Int32) (H : Heap) (locs : List Loc) (ls : Array Slot), (0 ≤ t5_c6.toInt ∧ t5_c6.toInt ≤ 8) → ((-1) ≤ t4_c6.toInt ∧ t4_c6.toInt ≤ 7) → (8 - t5_c6.toInt).toNat < nf → va_P D kl [(h, .inr (7, [.ref sl, .int na, .ref zs, .ref ln, .ref ir, .ref tk, .int su, .int le, .ref tb, .int fu, .int ap, .int pp, .ref tr, .int tc, .ref fz, .int nm])), (sl, .inl (cI, 1653, .inl sf))] H → va_D A [(h, .inr (7, [.ref sl, .int na, .ref zs, .ref ln, .ref ir, .ref tk, .int su, .int le, .ref tb, .int fu, .int ap, .int pp, .ref tr, .int tc, .ref fz, .int nm])), (sl, .inl (cI, 1653, .inl sf))] → va_S A s.heap H locs → lv_has ls 6 [(5, .int t5_c6), (4, .int t4_c6), (0, .ref h), (1, .int k), (2, .int b), (3, .int v)] → W p l e ({ frames := 1, cells := 0, slots := 0, locals := 21 }) s m ([.ref h, .int k, .int b, .int v] : List Value).toArray below meth c H locs 0 0 (MQ below (va_Qi (fun (r : Int32) (_u : Unit) => (0 ≤ r.toInt ∧ r.toInt ≤ 7)) (fun u t => wb D A ((fun _ => [(h, .inr (7, [.ref sl, .int na, .ref zs, .ref ln, .ref ir, .ref tk, .int su, .int le, .ref tb, .int fu, .int ap, .int pp, .ref tr, .int tc, .ref fz, .int nm])), (sl, .inl (cI, 1653, .inl sf))]) u) t) A) ([.ref h, .int k, .int b, .int v] : List Value).toArray s 0 0 A) (F0 m 6 ls []) := by
    intro nf
    induction nf with
    | zero =>
      intro t5_c6 t4_c6 H locs ls i_t5_c6 i_t4_c6 hm
      exact absurd hm (Nat.not_lt_zero _)
    | succ nf ih6 =>
      intro t5_c6 t4_c6 H locs ls i_t5_c6 i_t4_c6 hm6 hP hD hS hl
      refine lv_iload hx hb dX8_dearest_6 (lv_at hl 0 rfl) ?_
      refine lv_bipush (v := 8) hx hb dX8_dearest_8 (by decide) ?_
      refine lv_icmp_ge (tgt := 75) hx hb dX8_dearest_10 (by decide) (fun c_1 => ?_) (fun c_1 => ?_)
      · have f_1 : 8 ≤ t5_c6.toInt := zi_le c_1
        refine lv_iload hx hb dX8_dearest_75 (lv_at hl 1 rfl) ?_
        refine lv_if_ge (tgt := 84) hx hb dX8_dearest_77 (by decide) (fun c_2 => ?_) (fun c_2 => ?_)
        · have f_2 : 0 ≤ t4_c6.toInt := zi_le c_2
          refine lv_iload hx hb dX8_dearest_84 (lv_at hl 1 rfl) ?_
          exact wr_i (v := t4_c6) hx hb hr hlocks hS () (by exact (by omega)) (hP.sub [0, 1] rfl) (hD.sub [0, 1] (by decide) rfl) dX8_dearest_86
        · have f_2 : ¬ 0 ≤ t4_c6.toInt := zi_nle c_2
          refine lv_iload_n hx hb dX8_dearest_80 rfl (lv_at hl 5 rfl) ?_
          refine lv_goto (tgt := 86) hx hb dX8_dearest_81 (by decide) ?_
          exact wr_i (v := v) hx hb hr hlocks hS () (by exact (by omega)) (hP.sub [0, 1] rfl) (hD.sub [0, 1] (by decide) rfl) dX8_dearest_86
      · have f_1 : ¬ 8 ≤ t5_c6.toInt := zi_nle c_1
        refine lv_iload_n hx hb dX8_dearest_13 rfl (lv_at hl 4 rfl) ?_
        refine lv_iload hx hb dX8_dearest_14 (lv_at hl 0 rfl) ?_
        have k_3 := (g_X8_has l D cI cB cQ H.size b t5_c6)
        refine wc_i (WC := []) (WR := [(h, .inr (7, [.ref sl, .int na, .ref zs, .ref ln, .ref ir, .ref tk, .int su, .int le, .ref tb, .int fu, .int ap, .int pp, .ref tr, .int tc, .ref fz, .int nm])), (sl, .inl (cI, 1653, .inl sf))]) (va_runS (As := [.int b, .int t5_c6]) (rest := []) ⟨hx, hb, hml, hown, hts⟩ k_3 (va_cwS 2 hts gX8_dearest_X8_has rfl rfl rfl (by decide +kernel) ⟨Nat.le_of_ble_eq_true rfl, Nat.le_of_ble_eq_true rfl⟩) (wp_S hP hK hD hN [] (by decide) rfl) rfl rfl hl.1 rfl (lv_room (Nat.le_of_ble_eq_true rfl)) dX8_dearest_16 ⟨Nat.le_of_ble_eq_true rfl, Nat.le_of_ble_eq_true rfl⟩) hP hD hS hA [] [0, 1] rfl rfl (by decide) (by decide) (fun r_3 u_3 H locs hw_3 hP hD hS => ?_)
        clear k_3
        have hP : va_P D kl [(h, .inr (7, [.ref sl, .int na, .ref zs, .ref ln, .ref ir, .ref tk, .int su, .int le, .ref tb, .int fu, .int ap, .int pp, .ref tr, .int tc, .ref fz, .int nm])), (sl, .inl (cI, 1653, .inl sf))] H := hP
        have hD : va_D A [(h, .inr (7, [.ref sl, .int na, .ref zs, .ref ln, .ref ir, .ref tk, .int su, .int le, .ref tb, .int fu, .int ap, .int pp, .ref tr, .int tc, .ref fz, .int nm])), (sl, .inl (cI, 1653, .inl sf))] := hD
        have c3_0 := hw_3
        rcases c3_0 with e_3 | e_3
        · subst e_3
          refine lv_if_eq (tgt := 65) hx hb dX8_dearest_19 (by decide) (fun c9 => absurd c9 (by decide)) (fun _ => ?_)
          refine lv_iload hx hb dX8_dearest_22 (lv_at hl 1 rfl) ?_
          refine lv_if_lt (tgt := 60) hx hb dX8_dearest_24 (by decide) (fun c_4 => ?_) (fun c_4 => ?_)
          · have f_4 : t4_c6.toInt < 0 := zi_lt c_4
            refine lv_iload hx hb dX8_dearest_60 (lv_at hl 0 rfl) ?_
            refine lv_goto (tgt := 67) hx hb dX8_dearest_62 (by decide) ?_
            refine lv_istore (lv' := [(4, .int t5_c6), (5, .int t5_c6), (0, .ref h), (1, .int k), (2, .int b), (3, .int v)]) hx hb dX8_dearest_67 hl (by decide) rfl (fun ls hl => ?_)
            obtain ⟨x_5, ex_5⟩ : ∃ y : Int32, y = t5_c6 + Int32.ofInt 1 := ⟨_, rfl⟩
            refine lv_iinc (v := x_5) (lv' := [(5, .int x_5), (4, .int t5_c6), (0, .ref h), (1, .int k), (2, .int b), (3, .int v)]) hx hb dX8_dearest_69 hl (k := 1) rfl ex_5.symm (by decide) rfl (fun ls hl => ?_)
            have ex_5 : x_5 = t5_c6 + 1 := ex_5
            have e_5 : x_5.toInt = t5_c6.toInt + 1 := by rw [ex_5]; exact zi_add (rfl) (by decide) (by omega) (by omega)
            clear ex_5
            refine lv_goto (tgt := 6) hx hb dX8_dearest_72 (by decide) ?_
            exact ih6 x_5 t5_c6 _ _ _ (show 0 ≤ x_5.toInt ∧ x_5.toInt ≤ 8 from by omega) (show (-1) ≤ t5_c6.toInt ∧ t5_c6.toInt ≤ 7 from by omega) (by omega) (hP.sub [0, 1] rfl) (hD.sub [0, 1] (by decide) rfl) hS (lv_sub hl [0, 1, 2, 3, 4, 5] rfl)
          · have f_4 : ¬ t4_c6.toInt < 0 := zi_nlt c_4
            refine lv_aload_n hx hb dX8_dearest_27 rfl (lv_at hl 2 rfl) ?_
            refine va_get (D := D) (ci := 7) (v := .ref sl) (C := RX8) (T := TX8) (N := 16) hx hb hts (fun _ h => List.mem_cons_of_mem _ (List.mem_append_right _ h)) hown hK hP 0 rfl rfl 0 (by decide) (hts (.fieldLink RX8 7 "WinterWalkModel" "slot" "[I") (List.mem_of_getElem? (i := 1) rfl)) (fun _ h9 => h9) rfl dX8_dearest_28 ?_
            refine lv_iload_n hx hb dX8_dearest_31 rfl (lv_at hl 3 rfl) ?_
            refine lv_bipush (v := 57) hx hb dX8_dearest_32 (by decide) ?_
            refine lv_imul hx hb dX8_dearest_34 ?_
            refine lv_topi (fun x_6 ex_6 => ?_)
            have e_6 : x_6.toInt = k.toInt * 57 := by rw [ex_6]; exact zi_mul (rfl) (by decide) (by omega) (by omega)
            clear ex_6
            refine lv_bipush (v := 23) hx hb dX8_dearest_35 (by decide) ?_
            refine lv_iadd hx hb dX8_dearest_37 ?_
            refine lv_topi (fun x_7 ex_7 => ?_)
            have e_7 : x_7.toInt = x_6.toInt + 23 := by rw [ex_7]; exact zi_add (rfl) (by decide) (by omega) (by omega)
            clear ex_7
            refine lv_iload hx hb dX8_dearest_38 (lv_at hl 0 rfl) ?_
            refine lv_iadd hx hb dX8_dearest_40 ?_
            refine lv_topi (fun x_8 ex_8 => ?_)
            have e_8 : x_8.toInt = x_7.toInt + t5_c6.toInt := by rw [ex_8]; exact zi_add (rfl) (rfl) (by omega) (by omega)
            clear ex_8
            refine va_iald hx hb hK hP 1 0 rfl rfl (zi_in (by omega) (by omega)) dX8_dearest_41 ?_
            refine lv_topi (fun x_9 ex_9 => ?_)
            clear ex_9
            refine lv_aload_n hx hb dX8_dearest_42 rfl (lv_at hl 2 rfl) ?_
            refine va_get (D := D) (ci := 7) (v := .ref sl) (C := RX8) (T := TX8) (N := 16) hx hb hts (fun _ h => List.mem_cons_of_mem _ (List.mem_append_right _ h)) hown hK hP 0 rfl rfl 0 (by decide) (hts (.fieldLink RX8 7 "WinterWalkModel" "slot" "[I") (List.mem_of_getElem? (i := 1) rfl)) (fun _ h9 => h9) rfl dX8_dearest_43 ?_
            refine lv_iload_n hx hb dX8_dearest_46 rfl (lv_at hl 3 rfl) ?_
            refine lv_bipush (v := 57) hx hb dX8_dearest_47 (by decide) ?_
            refine lv_imul hx hb dX8_dearest_49 ?_
            refine lv_topi (fun x_10 ex_10 => ?_)
            have e_10 : x_10.toInt = k.toInt * 57 := by rw [ex_10]; exact zi_mul (rfl) (by decide) (by omega) (by omega)
            clear ex_10
            refine lv_bipush (v := 23) hx hb dX8_dearest_50 (by decide) ?_
            refine lv_iadd hx hb dX8_dearest_52 ?_
            refine lv_topi (fun x_11 ex_11 => ?_)
            have e_11 : x_11.toInt = x_10.toInt + 23 := by rw [ex_11]; exact zi_add (rfl) (by decide) (by omega) (by omega)
            clear ex_11
            refine lv_iload hx hb dX8_dearest_53 (lv_at hl 1 rfl) ?_
            refine lv_iadd hx hb dX8_dearest_55 ?_
            refine lv_topi (fun x_12 ex_12 => ?_)
            have e_12 : x_12.toInt = x_11.toInt + t4_c6.toInt := by rw [ex_12]; exact zi_add (rfl) (rfl) (by omega) (by omega)
            clear ex_12
            refine va_iald hx hb hK hP 1 0 rfl rfl (zi_in (by omega) (by omega)) dX8_dearest_56 ?_
            refine lv_topi (fun x_13 ex_13 => ?_)
            clear ex_13
            refine lv_icmp_le (tgt := 65) hx hb dX8_dearest_57 (by decide) (fun c_14 => ?_) (fun c_14 => ?_)
            · have f_14 : x_9.toInt ≤ x_13.toInt := zi_le c_14
              refine lv_iload hx hb dX8_dearest_65 (lv_at hl 1 rfl) ?_
              refine lv_istore (lv' := [(4, .int t4_c6), (5, .int t5_c6), (0, .ref h), (1, .int k), (2, .int b), (3, .int v)]) hx hb dX8_dearest_67 hl (by decide) rfl (fun ls hl => ?_)
              obtain ⟨x_15, ex_15⟩ : ∃ y : Int32, y = t5_c6 + Int32.ofInt 1 := ⟨_, rfl⟩
              refine lv_iinc (v := x_15) (lv' := [(5, .int x_15), (4, .int t4_c6), (0, .ref h), (1, .int k), (2, .int b), (3, .int v)]) hx hb dX8_dearest_69 hl (k := 1) rfl ex_15.symm (by decide) rfl (fun ls hl => ?_)
              have ex_15 : x_15 = t5_c6 + 1 := ex_15
              have e_15 : x_15.toInt = t5_c6.toInt + 1 := by rw [ex_15]; exact zi_add (rfl) (by decide) (by omega) (by omega)
              clear ex_15
              refine lv_goto (tgt := 6) hx hb dX8_dearest_72 (by decide) ?_
              exact ih6 x_15 t4_c6 _ _ _ (show 0 ≤ x_15.toInt ∧ x_15.toInt ≤ 8 from by omega) (show (-1) ≤ t4_c6.toInt ∧ t4_c6.toInt ≤ 7 from by omega) (by omega) (hP.sub [0, 1] rfl) (hD.sub [0, 1] (by decide) rfl) hS (lv_sub hl [0, 1, 2, 3, 4, 5] rfl)
            · have f_14 : ¬ x_9.toInt ≤ x_13.toInt := zi_nle c_14
              refine lv_iload hx hb dX8_dearest_60 (lv_at hl 0 rfl) ?_
              refine lv_goto (tgt := 67) hx hb dX8_dearest_62 (by decide) ?_
              refine lv_istore (lv' := [(4, .int t5_c6), (5, .int t5_c6), (0, .ref h), (1, .int k), (2, .int b), (3, .int v)]) hx hb dX8_dearest_67 hl (by decide) rfl (fun ls hl => ?_)
              obtain ⟨x_16, ex_16⟩ : ∃ y : Int32, y = t5_c6 + Int32.ofInt 1 := ⟨_, rfl⟩
              refine lv_iinc (v := x_16) (lv' := [(5, .int x_16), (4, .int t5_c6), (0, .ref h), (1, .int k), (2, .int b), (3, .int v)]) hx hb dX8_dearest_69 hl (k := 1) rfl ex_16.symm (by decide) rfl (fun ls hl => ?_)
              have ex_16 : x_16 = t5_c6 + 1 := ex_16
              have e_16 : x_16.toInt = t5_c6.toInt + 1 := by rw [ex_16]; exact zi_add (rfl) (by decide) (by omega) (by omega)
              clear ex_16
              refine lv_goto (tgt := 6) hx hb dX8_dearest_72 (by decide) ?_
              exact ih6 x_16 t5_c6 _ _ _ (show 0 ≤ x_16.toInt ∧ x_16.toInt ≤ 8 from by omega) (show (-1) ≤ t5_c6.toInt ∧ t5_c6.toInt ≤ 7 from by omega) (by omega) (hP.sub [0, 1] rfl) (hD.sub [0, 1] (by decide) rfl) hS (lv_sub hl [0, 1, 2, 3, 4, 5] rfl)
        · subst e_3
          refine lv_if_eq (tgt := 65) hx hb dX8_dearest_19 (by decide) (fun _ => ?_) (fun c9 => absurd (by decide) c9)
          refine lv_iload hx hb dX8_dearest_65 (lv_at hl 1 rfl) ?_
          refine lv_istore (lv' := [(4, .int t4_c6), (5, .int t5_c6), (0, .ref h), (1, .int k), (2, .int b), (3, .int v)]) hx hb dX8_dearest_67 hl (by decide) rfl (fun ls hl => ?_)
          obtain ⟨x_17, ex_17⟩ : ∃ y : Int32, y = t5_c6 + Int32.ofInt 1 := ⟨_, rfl⟩
          refine lv_iinc (v := x_17) (lv' := [(5, .int x_17), (4, .int t4_c6), (0, .ref h), (1, .int k), (2, .int b), (3, .int v)]) hx hb dX8_dearest_69 hl (k := 1) rfl ex_17.symm (by decide) rfl (fun ls hl => ?_)
          have ex_17 : x_17 = t5_c6 + 1 := ex_17
          have e_17 : x_17.toInt = t5_c6.toInt + 1 := by rw [ex_17]; exact zi_add (rfl) (by decide) (by omega) (by omega)
          clear ex_17
          refine lv_goto (tgt := 6) hx hb dX8_dearest_72 (by decide) ?_
          exact ih6 x_17 t4_c6 _ _ _ (show 0 ≤ x_17.toInt ∧ x_17.toInt ≤ 8 from by omega) (show (-1) ≤ t4_c6.toInt ∧ t4_c6.toInt ≤ 7 from by omega) (by omega) (hP.sub [0, 1] rfl) (hD.sub [0, 1] (by decide) rfl) hS (lv_sub hl [0, 1, 2, 3, 4, 5] rfl)
  exact hL6 (((8 - (0 : Int32).toInt).toNat) + 1) 0 (-1) _ _ _ (show 0 ≤ 0 ∧ 0 ≤ 8 from by omega) (show (-1) ≤ (-1) ∧ (-1) ≤ 7 from by omega) (Nat.lt_succ_self _) (hP.sub [0, 1] rfl) (hD.sub [0, 1] (by decide) rfl) hS (lv_sub hl [0, 1, 2, 3, 4, 5] rfl)
set_option maxHeartbeats 4000000 in
set_option maxRecDepth 100000 in
theorem g_X8_rarest (l : Launch) (D : va_G) (cI cB cQ : ClassId) (sz : Nat) (h : Nat) (sl : Nat) (zs : Nat) (ln : Nat) (ir : Nat) (tk : Nat) (tb : Nat) (tr : Nat) (fz : Nat) (na : Int32) (su : Int32) (le : Int32) (fu : Int32) (ap : Int32) (pp : Int32) (tc : Int32) (nm : Int32) (k : Int32) (v : Int32) (sf : Nat → Int32) (v0 : Int) (hsi : SI sf v0) (h_k : 0 ≤ k.toInt ∧ k.toInt ≤ 28) (h_v : 0 ≤ v.toInt ∧ v.toInt ≤ 7) : mi l yX8_rarest wsX8_rarest ({ frames := 1, cells := 0, slots := 0, locals := 22 }) D cI cB cQ [.ref h, .int k, .int v] sz [(h, .inr (7, [.ref sl, .int na, .ref zs, .ref ln, .ref ir, .ref tk, .int su, .int le, .ref tb, .int fu, .int ap, .int pp, .ref tr, .int tc, .ref fz, .int nm])), (sl, .inl (cI, 1653, .inl sf))] (fun (r : Int32) (_u : Unit) => (0 ≤ r.toInt ∧ r.toInt ≤ 7)) (fun _ => [(h, .inr (7, [.ref sl, .int na, .ref zs, .ref ln, .ref ir, .ref tk, .int su, .int le, .ref tb, .int fu, .int ap, .int pp, .ref tr, .int tc, .ref fz, .int nm])), (sl, .inl (cI, 1653, .inl sf))]) 0 0 := by
  refine wm_i (cc := cX8_rarest) (maxL := 6) (ret := (some .int)) (by decide) rfl (Nat.le_of_ble_eq_true rfl) ?_
  intro p e s m below meth c A ls hx hb hr hml hown hts hlocks hin hP hK hD hN hA hl hS
  have hown : s.vm.findClass RX8 = some m.cls := hown
  have hl : lv_has ls 6 [(0, .ref h), (1, .int k), (2, .int v)] := hl
  change W p l e ({ frames := 1, cells := 0, slots := 0, locals := 22 }) s m ([.ref h, .int k, .int v] : List Value).toArray below meth c s.heap [] 0 0 (MQ below (va_Qi (fun (r : Int32) (_u : Unit) => (0 ≤ r.toInt ∧ r.toInt ≤ 7)) (fun u t => wb D A ((fun _ => [(h, .inr (7, [.ref sl, .int na, .ref zs, .ref ln, .ref ir, .ref tk, .int su, .int le, .ref tb, .int fu, .int ap, .int pp, .ref tr, .int tc, .ref fz, .int nm])), (sl, .inl (cI, 1653, .inl sf))]) u) t) A) ([.ref h, .int k, .int v] : List Value).toArray s 0 0 A) (F0 m 0 ls [])
  refine lv_aload_n hx hb dX8_rarest_0 rfl (lv_at hl 0 rfl) ?_
  refine lv_iload_n hx hb dX8_rarest_1 rfl (lv_at hl 1 rfl) ?_
  refine lv_iload_n hx hb dX8_rarest_2 rfl (lv_at hl 2 rfl) ?_
  have k_1 := (g_X8_open l D cI cB cQ s.heap.size h sl zs ln ir tk tb tr fz na su le fu ap pp tc nm k v sf v0 hsi (by omega) (by omega))
  refine wc_i (WC := [(h, .inr (7, [.ref sl, .int na, .ref zs, .ref ln, .ref ir, .ref tk, .int su, .int le, .ref tb, .int fu, .int ap, .int pp, .ref tr, .int tc, .ref fz, .int nm])), (sl, .inl (cI, 1653, .inl sf))]) (WR := []) (va_runV (As := [.int k, .int v]) (rest := []) ⟨hx, hb, hml, hown, hts⟩ k_1 (cwV 2 hts gX8_rarest_X8_open rfl rfl rfl (by decide +kernel) ⟨Nat.le_of_ble_eq_true rfl, Nat.le_of_ble_eq_true rfl⟩) (wp_V hP hK hD hN [0, 1] (by decide) rfl (ci := 7) rfl rfl) rfl rfl hl.1 rfl (lv_room (Nat.le_of_ble_eq_true rfl)) dX8_rarest_3 ⟨Nat.le_of_ble_eq_true rfl, Nat.le_of_ble_eq_true rfl⟩) hP hD hS hA [0, 1] [] rfl rfl (by decide) (by decide) (fun r_1 u_1 H locs hw_1 hP hD hS => ?_)
  clear k_1
  have hP : va_P D kl [(h, .inr (7, [.ref sl, .int na, .ref zs, .ref ln, .ref ir, .ref tk, .int su, .int le, .ref tb, .int fu, .int ap, .int pp, .ref tr, .int tc, .ref fz, .int nm])), (sl, .inl (cI, 1653, .inl sf))] H := hP
  have hD : va_D A [(h, .inr (7, [.ref sl, .int na, .ref zs, .ref ln, .ref ir, .ref tk, .int su, .int le, .ref tb, .int fu, .int ap, .int pp, .ref tr, .int tc, .ref fz, .int nm])), (sl, .inl (cI, 1653, .inl sf))] := hD
  clear hw_1
  refine lv_istore_n (lv' := [(3, .int r_1), (0, .ref h), (1, .int k), (2, .int v)]) hx hb dX8_rarest_6 rfl hl (by decide) rfl (fun ls hl => ?_)
  refine lv_iconst (v := (-1)) hx hb dX8_rarest_7 (by decide) ?_
  refine lv_istore (lv' := [(4, .int (-1)), (3, .int r_1), (0, .ref h), (1, .int k), (2, .int v)]) hx hb dX8_rarest_8 hl (by decide) rfl (fun ls hl => ?_)
  refine lv_iconst (v := 0) hx hb dX8_rarest_10 (by decide) ?_
  refine lv_istore (lv' := [(5, .int 0), (4, .int (-1)), (3, .int r_1), (0, .ref h), (1, .int k), (2, .int v)]) hx hb dX8_rarest_11 hl (by decide) rfl (fun ls hl => ?_)
  have hL13 : ∀ (nf : Nat) (t5_c13 : Int32) (t4_c13 : Int32) (H : Heap) (locs : List Loc) (ls : Array Slot), (0 ≤ t5_c13.toInt ∧ t5_c13.toInt ≤ 8) → ((-1) ≤ t4_c13.toInt ∧ t4_c13.toInt ≤ 7) → (8 - t5_c13.toInt).toNat < nf → va_P D kl [(h, .inr (7, [.ref sl, .int na, .ref zs, .ref ln, .ref ir, .ref tk, .int su, .int le, .ref tb, .int fu, .int ap, .int pp, .ref tr, .int tc, .ref fz, .int nm])), (sl, .inl (cI, 1653, .inl sf))] H → va_D A [(h, .inr (7, [.ref sl, .int na, .ref zs, .ref ln, .ref ir, .ref tk, .int su, .int le, .ref tb, .int fu, .int ap, .int pp, .ref tr, .int tc, .ref fz, .int nm])), (sl, .inl (cI, 1653, .inl sf))] → va_S A s.heap H locs → lv_has ls 6 [(5, .int t5_c13), (4, .int t4_c13), (3, .int r_1), (0, .ref h), (1, .int k), (2, .int v)] → W p l e ({ frames := 1, cells := 0, slots := 0, locals := 22 }) s m ([.ref h, .int k, .int v] : List Value).toArray below meth c H locs 0 0 (MQ below (va_Qi (fun (r : Int32) (_u : Unit) => (0 ≤ r.toInt ∧ r.toInt ≤ 7)) (fun u t => wb D A ((fun _ => [(h, .inr (7, [.ref sl, .int na, .ref zs, .ref ln, .ref ir, .ref tk, .int su, .int le, .ref tb, .int fu, .int ap, .int pp, .ref tr, .int tc, .ref fz, .int nm])), (sl, .inl (cI, 1653, .inl sf))]) u) t) A) ([.ref h, .int k, .int v] : List Value).toArray s 0 0 A) (F0 m 13 ls []) := by
    intro nf
    induction nf with
    | zero =>
      intro t5_c13 t4_c13 H locs ls i_t5_c13 i_t4_c13 hm
      exact absurd hm (Nat.not_lt_zero _)
    | succ nf ih13 =>
      intro t5_c13 t4_c13 H locs ls i_t5_c13 i_t4_c13 hm13 hP hD hS hl
      refine lv_iload hx hb dX8_rarest_13 (lv_at hl 0 rfl) ?_
      refine lv_bipush (v := 8) hx hb dX8_rarest_15 (by decide) ?_
      refine lv_icmp_ge (tgt := 82) hx hb dX8_rarest_17 (by decide) (fun c_2 => ?_) (fun c_2 => ?_)
      · have f_2 : 8 ≤ t5_c13.toInt := zi_le c_2
        refine lv_iload hx hb dX8_rarest_82 (lv_at hl 1 rfl) ?_
        refine lv_if_ge (tgt := 91) hx hb dX8_rarest_84 (by decide) (fun c_3 => ?_) (fun c_3 => ?_)
        · have f_3 : 0 ≤ t4_c13.toInt := zi_le c_3
          refine lv_iload hx hb dX8_rarest_91 (lv_at hl 1 rfl) ?_
          exact wr_i (v := t4_c13) hx hb hr hlocks hS () (by exact (by omega)) (hP.sub [0, 1] rfl) (hD.sub [0, 1] (by decide) rfl) dX8_rarest_93
        · have f_3 : ¬ 0 ≤ t4_c13.toInt := zi_nle c_3
          refine lv_iload_n hx hb dX8_rarest_87 rfl (lv_at hl 5 rfl) ?_
          refine lv_goto (tgt := 93) hx hb dX8_rarest_88 (by decide) ?_
          exact wr_i (v := v) hx hb hr hlocks hS () (by exact (by omega)) (hP.sub [0, 1] rfl) (hD.sub [0, 1] (by decide) rfl) dX8_rarest_93
      · have f_2 : ¬ 8 ≤ t5_c13.toInt := zi_nle c_2
        refine lv_iload_n hx hb dX8_rarest_20 rfl (lv_at hl 2 rfl) ?_
        refine lv_iload hx hb dX8_rarest_21 (lv_at hl 0 rfl) ?_
        have k_4 := (g_X8_has l D cI cB cQ H.size r_1 t5_c13)
        refine wc_i (WC := []) (WR := [(h, .inr (7, [.ref sl, .int na, .ref zs, .ref ln, .ref ir, .ref tk, .int su, .int le, .ref tb, .int fu, .int ap, .int pp, .ref tr, .int tc, .ref fz, .int nm])), (sl, .inl (cI, 1653, .inl sf))]) (va_runS (As := [.int r_1, .int t5_c13]) (rest := []) ⟨hx, hb, hml, hown, hts⟩ k_4 (va_cwS 2 hts gX8_rarest_X8_has rfl rfl rfl (by decide +kernel) ⟨Nat.le_of_ble_eq_true rfl, Nat.le_of_ble_eq_true rfl⟩) (wp_S hP hK hD hN [] (by decide) rfl) rfl rfl hl.1 rfl (lv_room (Nat.le_of_ble_eq_true rfl)) dX8_rarest_23 ⟨Nat.le_of_ble_eq_true rfl, Nat.le_of_ble_eq_true rfl⟩) hP hD hS hA [] [0, 1] rfl rfl (by decide) (by decide) (fun r_4 u_4 H locs hw_4 hP hD hS => ?_)
        clear k_4
        have hP : va_P D kl [(h, .inr (7, [.ref sl, .int na, .ref zs, .ref ln, .ref ir, .ref tk, .int su, .int le, .ref tb, .int fu, .int ap, .int pp, .ref tr, .int tc, .ref fz, .int nm])), (sl, .inl (cI, 1653, .inl sf))] H := hP
        have hD : va_D A [(h, .inr (7, [.ref sl, .int na, .ref zs, .ref ln, .ref ir, .ref tk, .int su, .int le, .ref tb, .int fu, .int ap, .int pp, .ref tr, .int tc, .ref fz, .int nm])), (sl, .inl (cI, 1653, .inl sf))] := hD
        have c4_0 := hw_4
        rcases c4_0 with e_4 | e_4
        · subst e_4
          refine lv_if_eq (tgt := 72) hx hb dX8_rarest_26 (by decide) (fun c9 => absurd c9 (by decide)) (fun _ => ?_)
          refine lv_iload hx hb dX8_rarest_29 (lv_at hl 1 rfl) ?_
          refine lv_if_lt (tgt := 67) hx hb dX8_rarest_31 (by decide) (fun c_5 => ?_) (fun c_5 => ?_)
          · have f_5 : t4_c13.toInt < 0 := zi_lt c_5
            refine lv_iload hx hb dX8_rarest_67 (lv_at hl 0 rfl) ?_
            refine lv_goto (tgt := 74) hx hb dX8_rarest_69 (by decide) ?_
            refine lv_istore (lv' := [(4, .int t5_c13), (5, .int t5_c13), (3, .int r_1), (0, .ref h), (1, .int k), (2, .int v)]) hx hb dX8_rarest_74 hl (by decide) rfl (fun ls hl => ?_)
            obtain ⟨x_6, ex_6⟩ : ∃ y : Int32, y = t5_c13 + Int32.ofInt 1 := ⟨_, rfl⟩
            refine lv_iinc (v := x_6) (lv' := [(5, .int x_6), (4, .int t5_c13), (3, .int r_1), (0, .ref h), (1, .int k), (2, .int v)]) hx hb dX8_rarest_76 hl (k := 1) rfl ex_6.symm (by decide) rfl (fun ls hl => ?_)
            have ex_6 : x_6 = t5_c13 + 1 := ex_6
            have e_6 : x_6.toInt = t5_c13.toInt + 1 := by rw [ex_6]; exact zi_add (rfl) (by decide) (by omega) (by omega)
            clear ex_6
            refine lv_goto (tgt := 13) hx hb dX8_rarest_79 (by decide) ?_
            exact ih13 x_6 t5_c13 _ _ _ (show 0 ≤ x_6.toInt ∧ x_6.toInt ≤ 8 from by omega) (show (-1) ≤ t5_c13.toInt ∧ t5_c13.toInt ≤ 7 from by omega) (by omega) (hP.sub [0, 1] rfl) (hD.sub [0, 1] (by decide) rfl) hS (lv_sub hl [0, 1, 2, 3, 4, 5] rfl)
          · have f_5 : ¬ t4_c13.toInt < 0 := zi_nlt c_5
            refine lv_aload_n hx hb dX8_rarest_34 rfl (lv_at hl 3 rfl) ?_
            refine va_get (D := D) (ci := 7) (v := .ref sl) (C := RX8) (T := TX8) (N := 16) hx hb hts (fun _ h => List.mem_cons_of_mem _ (List.mem_append_right _ h)) hown hK hP 0 rfl rfl 0 (by decide) (hts (.fieldLink RX8 7 "WinterWalkModel" "slot" "[I") (List.mem_of_getElem? (i := 1) rfl)) (fun _ h9 => h9) rfl dX8_rarest_35 ?_
            refine lv_iload_n hx hb dX8_rarest_38 rfl (lv_at hl 4 rfl) ?_
            refine lv_bipush (v := 57) hx hb dX8_rarest_39 (by decide) ?_
            refine lv_imul hx hb dX8_rarest_41 ?_
            refine lv_topi (fun x_7 ex_7 => ?_)
            have e_7 : x_7.toInt = k.toInt * 57 := by rw [ex_7]; exact zi_mul (rfl) (by decide) (by omega) (by omega)
            clear ex_7
            refine lv_bipush (v := 40) hx hb dX8_rarest_42 (by decide) ?_
            refine lv_iadd hx hb dX8_rarest_44 ?_
            refine lv_topi (fun x_8 ex_8 => ?_)
            have e_8 : x_8.toInt = x_7.toInt + 40 := by rw [ex_8]; exact zi_add (rfl) (by decide) (by omega) (by omega)
            clear ex_8
            refine lv_iload hx hb dX8_rarest_45 (lv_at hl 0 rfl) ?_
            refine lv_iadd hx hb dX8_rarest_47 ?_
            refine lv_topi (fun x_9 ex_9 => ?_)
            have e_9 : x_9.toInt = x_8.toInt + t5_c13.toInt := by rw [ex_9]; exact zi_add (rfl) (rfl) (by omega) (by omega)
            clear ex_9
            refine va_iald hx hb hK hP 1 0 rfl rfl (zi_in (by omega) (by omega)) dX8_rarest_48 ?_
            refine lv_topi (fun x_10 ex_10 => ?_)
            clear ex_10
            refine lv_aload_n hx hb dX8_rarest_49 rfl (lv_at hl 3 rfl) ?_
            refine va_get (D := D) (ci := 7) (v := .ref sl) (C := RX8) (T := TX8) (N := 16) hx hb hts (fun _ h => List.mem_cons_of_mem _ (List.mem_append_right _ h)) hown hK hP 0 rfl rfl 0 (by decide) (hts (.fieldLink RX8 7 "WinterWalkModel" "slot" "[I") (List.mem_of_getElem? (i := 1) rfl)) (fun _ h9 => h9) rfl dX8_rarest_50 ?_
            refine lv_iload_n hx hb dX8_rarest_53 rfl (lv_at hl 4 rfl) ?_
            refine lv_bipush (v := 57) hx hb dX8_rarest_54 (by decide) ?_
            refine lv_imul hx hb dX8_rarest_56 ?_
            refine lv_topi (fun x_11 ex_11 => ?_)
            have e_11 : x_11.toInt = k.toInt * 57 := by rw [ex_11]; exact zi_mul (rfl) (by decide) (by omega) (by omega)
            clear ex_11
            refine lv_bipush (v := 40) hx hb dX8_rarest_57 (by decide) ?_
            refine lv_iadd hx hb dX8_rarest_59 ?_
            refine lv_topi (fun x_12 ex_12 => ?_)
            have e_12 : x_12.toInt = x_11.toInt + 40 := by rw [ex_12]; exact zi_add (rfl) (by decide) (by omega) (by omega)
            clear ex_12
            refine lv_iload hx hb dX8_rarest_60 (lv_at hl 1 rfl) ?_
            refine lv_iadd hx hb dX8_rarest_62 ?_
            refine lv_topi (fun x_13 ex_13 => ?_)
            have e_13 : x_13.toInt = x_12.toInt + t4_c13.toInt := by rw [ex_13]; exact zi_add (rfl) (rfl) (by omega) (by omega)
            clear ex_13
            refine va_iald hx hb hK hP 1 0 rfl rfl (zi_in (by omega) (by omega)) dX8_rarest_63 ?_
            refine lv_topi (fun x_14 ex_14 => ?_)
            clear ex_14
            refine lv_icmp_ge (tgt := 72) hx hb dX8_rarest_64 (by decide) (fun c_15 => ?_) (fun c_15 => ?_)
            · have f_15 : x_14.toInt ≤ x_10.toInt := zi_le c_15
              refine lv_iload hx hb dX8_rarest_72 (lv_at hl 1 rfl) ?_
              refine lv_istore (lv' := [(4, .int t4_c13), (5, .int t5_c13), (3, .int r_1), (0, .ref h), (1, .int k), (2, .int v)]) hx hb dX8_rarest_74 hl (by decide) rfl (fun ls hl => ?_)
              obtain ⟨x_16, ex_16⟩ : ∃ y : Int32, y = t5_c13 + Int32.ofInt 1 := ⟨_, rfl⟩
              refine lv_iinc (v := x_16) (lv' := [(5, .int x_16), (4, .int t4_c13), (3, .int r_1), (0, .ref h), (1, .int k), (2, .int v)]) hx hb dX8_rarest_76 hl (k := 1) rfl ex_16.symm (by decide) rfl (fun ls hl => ?_)
              have ex_16 : x_16 = t5_c13 + 1 := ex_16
              have e_16 : x_16.toInt = t5_c13.toInt + 1 := by rw [ex_16]; exact zi_add (rfl) (by decide) (by omega) (by omega)
              clear ex_16
              refine lv_goto (tgt := 13) hx hb dX8_rarest_79 (by decide) ?_
              exact ih13 x_16 t4_c13 _ _ _ (show 0 ≤ x_16.toInt ∧ x_16.toInt ≤ 8 from by omega) (show (-1) ≤ t4_c13.toInt ∧ t4_c13.toInt ≤ 7 from by omega) (by omega) (hP.sub [0, 1] rfl) (hD.sub [0, 1] (by decide) rfl) hS (lv_sub hl [0, 1, 2, 3, 4, 5] rfl)
            · have f_15 : ¬ x_14.toInt ≤ x_10.toInt := zi_nle c_15
              refine lv_iload hx hb dX8_rarest_67 (lv_at hl 0 rfl) ?_
              refine lv_goto (tgt := 74) hx hb dX8_rarest_69 (by decide) ?_
              refine lv_istore (lv' := [(4, .int t5_c13), (5, .int t5_c13), (3, .int r_1), (0, .ref h), (1, .int k), (2, .int v)]) hx hb dX8_rarest_74 hl (by decide) rfl (fun ls hl => ?_)
              obtain ⟨x_17, ex_17⟩ : ∃ y : Int32, y = t5_c13 + Int32.ofInt 1 := ⟨_, rfl⟩
              refine lv_iinc (v := x_17) (lv' := [(5, .int x_17), (4, .int t5_c13), (3, .int r_1), (0, .ref h), (1, .int k), (2, .int v)]) hx hb dX8_rarest_76 hl (k := 1) rfl ex_17.symm (by decide) rfl (fun ls hl => ?_)
              have ex_17 : x_17 = t5_c13 + 1 := ex_17
              have e_17 : x_17.toInt = t5_c13.toInt + 1 := by rw [ex_17]; exact zi_add (rfl) (by decide) (by omega) (by omega)
              clear ex_17
              refine lv_goto (tgt := 13) hx hb dX8_rarest_79 (by decide) ?_
              exact ih13 x_17 t5_c13 _ _ _ (show 0 ≤ x_17.toInt ∧ x_17.toInt ≤ 8 from by omega) (show (-1) ≤ t5_c13.toInt ∧ t5_c13.toInt ≤ 7 from by omega) (by omega) (hP.sub [0, 1] rfl) (hD.sub [0, 1] (by decide) rfl) hS (lv_sub hl [0, 1, 2, 3, 4, 5] rfl)
        · subst e_4
          refine lv_if_eq (tgt := 72) hx hb dX8_rarest_26 (by decide) (fun _ => ?_) (fun c9 => absurd (by decide) c9)
          refine lv_iload hx hb dX8_rarest_72 (lv_at hl 1 rfl) ?_
          refine lv_istore (lv' := [(4, .int t4_c13), (5, .int t5_c13), (3, .int r_1), (0, .ref h), (1, .int k), (2, .int v)]) hx hb dX8_rarest_74 hl (by decide) rfl (fun ls hl => ?_)
          obtain ⟨x_18, ex_18⟩ : ∃ y : Int32, y = t5_c13 + Int32.ofInt 1 := ⟨_, rfl⟩
          refine lv_iinc (v := x_18) (lv' := [(5, .int x_18), (4, .int t4_c13), (3, .int r_1), (0, .ref h), (1, .int k), (2, .int v)]) hx hb dX8_rarest_76 hl (k := 1) rfl ex_18.symm (by decide) rfl (fun ls hl => ?_)
          have ex_18 : x_18 = t5_c13 + 1 := ex_18
          have e_18 : x_18.toInt = t5_c13.toInt + 1 := by rw [ex_18]; exact zi_add (rfl) (by decide) (by omega) (by omega)
          clear ex_18
          refine lv_goto (tgt := 13) hx hb dX8_rarest_79 (by decide) ?_
          exact ih13 x_18 t4_c13 _ _ _ (show 0 ≤ x_18.toInt ∧ x_18.toInt ≤ 8 from by omega) (show (-1) ≤ t4_c13.toInt ∧ t4_c13.toInt ≤ 7 from by omega) (by omega) (hP.sub [0, 1] rfl) (hD.sub [0, 1] (by decide) rfl) hS (lv_sub hl [0, 1, 2, 3, 4, 5] rfl)
  exact hL13 (((8 - (0 : Int32).toInt).toNat) + 1) 0 (-1) _ _ _ (show 0 ≤ 0 ∧ 0 ≤ 8 from by omega) (show (-1) ≤ (-1) ∧ (-1) ≤ 7 from by omega) (Nat.lt_succ_self _) (hP.sub [0, 1] rfl) (hD.sub [0, 1] (by decide) rfl) hS (lv_sub hl [0, 1, 2, 3, 4, 5] rfl)
set_option maxHeartbeats 4000000 in
set_option maxRecDepth 100000 in
theorem g_X8_goesTo (l : Launch) (D : va_G) (cI cB cQ : ClassId) (sz : Nat) (h : Nat) (sl : Nat) (zs : Nat) (ln : Nat) (ir : Nat) (tk : Nat) (tb : Nat) (tr : Nat) (fz : Nat) (na : Int32) (su : Int32) (le : Int32) (fu : Int32) (ap : Int32) (pp : Int32) (tc : Int32) (nm : Int32) (k : Int32) (v : Int32) (sf : Nat → Int32) (v0 : Int) (hsi : SI sf v0) (h_k : 0 ≤ k.toInt ∧ k.toInt ≤ 28) (h_v : 0 ≤ v.toInt ∧ v.toInt ≤ 2) : mi l yX8_goesTo wsX8_goesTo ({ frames := 2, cells := 0, slots := 0, locals := 47 }) D cI cB cQ [.ref h, .int k, .int v] sz [(h, .inr (7, [.ref sl, .int na, .ref zs, .ref ln, .ref ir, .ref tk, .int su, .int le, .ref tb, .int fu, .int ap, .int pp, .ref tr, .int tc, .ref fz, .int nm])), (sl, .inl (cI, 1653, .inl sf))] (fun (r : Int32) (_u : Unit) => (0 ≤ r.toInt ∧ r.toInt ≤ 7)) (fun _ => [(h, .inr (7, [.ref sl, .int na, .ref zs, .ref ln, .ref ir, .ref tk, .int su, .int le, .ref tb, .int fu, .int ap, .int pp, .ref tr, .int tc, .ref fz, .int nm])), (sl, .inl (cI, 1653, .inl sf))]) 0 0 := by
  refine wm_i (cc := cX8_goesTo) (maxL := 7) (ret := (some .int)) (by decide) rfl (Nat.le_of_ble_eq_true rfl) ?_
  intro p e s m below meth c A ls hx hb hr hml hown hts hlocks hin hP hK hD hN hA hl hS
  have hown : s.vm.findClass RX8 = some m.cls := hown
  have hl : lv_has ls 7 [(0, .ref h), (1, .int k), (2, .int v)] := hl
  change W p l e ({ frames := 2, cells := 0, slots := 0, locals := 47 }) s m ([.ref h, .int k, .int v] : List Value).toArray below meth c s.heap [] 0 0 (MQ below (va_Qi (fun (r : Int32) (_u : Unit) => (0 ≤ r.toInt ∧ r.toInt ≤ 7)) (fun u t => wb D A ((fun _ => [(h, .inr (7, [.ref sl, .int na, .ref zs, .ref ln, .ref ir, .ref tk, .int su, .int le, .ref tb, .int fu, .int ap, .int pp, .ref tr, .int tc, .ref fz, .int nm])), (sl, .inl (cI, 1653, .inl sf))]) u) t) A) ([.ref h, .int k, .int v] : List Value).toArray s 0 0 A) (F0 m 0 ls [])
  refine lv_aload_n hx hb dX8_goesTo_0 rfl (lv_at hl 0 rfl) ?_
  refine va_get (D := D) (ci := 7) (v := .ref sl) (C := RX8) (T := TX8) (N := 16) hx hb hts (fun _ h => List.mem_cons_of_mem _ (List.mem_append_right _ h)) hown hK hP 0 rfl rfl 0 (by decide) (hts (.fieldLink RX8 7 "WinterWalkModel" "slot" "[I") (List.mem_of_getElem? (i := 1) rfl)) (fun _ h9 => h9) rfl dX8_goesTo_1 ?_
  refine lv_iload_n hx hb dX8_goesTo_4 rfl (lv_at hl 1 rfl) ?_
  refine lv_bipush (v := 57) hx hb dX8_goesTo_5 (by decide) ?_
  refine lv_imul hx hb dX8_goesTo_7 ?_
  refine lv_topi (fun x_1 ex_1 => ?_)
  have e_1 : x_1.toInt = k.toInt * 57 := by rw [ex_1]; exact zi_mul (rfl) (by decide) (by omega) (by omega)
  clear ex_1
  refine lv_bipush (v := 48) hx hb dX8_goesTo_8 (by decide) ?_
  refine lv_iadd hx hb dX8_goesTo_10 ?_
  refine lv_topi (fun x_2 ex_2 => ?_)
  have e_2 : x_2.toInt = x_1.toInt + 48 := by rw [ex_2]; exact zi_add (rfl) (by decide) (by omega) (by omega)
  clear ex_2
  refine lv_iload_n hx hb dX8_goesTo_11 rfl (lv_at hl 2 rfl) ?_
  refine lv_iadd hx hb dX8_goesTo_12 ?_
  refine lv_topi (fun x_3 ex_3 => ?_)
  have e_3 : x_3.toInt = x_2.toInt + v.toInt := by rw [ex_3]; exact zi_add (rfl) (rfl) (by omega) (by omega)
  clear ex_3
  refine va_iald hx hb hK hP 1 0 rfl rfl (zi_in (by omega) (by omega)) dX8_goesTo_13 ?_
  refine lv_topi (fun x_4 ex_4 => ?_)
  have f_4 : 0 ≤ x_4.toInt ∧ x_4.toInt ≤ 7 := by rw [ex_4]; exact si_a hsi (s := k.toInt) (k := v.toInt) (by omega) (by omega) (by omega)
  clear ex_4
  refine lv_istore_n (lv' := [(3, .int x_4), (0, .ref h), (1, .int k), (2, .int v)]) hx hb dX8_goesTo_14 rfl hl (by decide) rfl (fun ls hl => ?_)
  refine lv_aload_n hx hb dX8_goesTo_15 rfl (lv_at hl 1 rfl) ?_
  refine va_get (D := D) (ci := 7) (v := .ref sl) (C := RX8) (T := TX8) (N := 16) hx hb hts (fun _ h => List.mem_cons_of_mem _ (List.mem_append_right _ h)) hown hK hP 0 rfl rfl 0 (by decide) (hts (.fieldLink RX8 7 "WinterWalkModel" "slot" "[I") (List.mem_of_getElem? (i := 1) rfl)) (fun _ h9 => h9) rfl dX8_goesTo_16 ?_
  refine lv_iload_n hx hb dX8_goesTo_19 rfl (lv_at hl 2 rfl) ?_
  refine lv_bipush (v := 57) hx hb dX8_goesTo_20 (by decide) ?_
  refine lv_imul hx hb dX8_goesTo_22 ?_
  refine lv_topi (fun x_5 ex_5 => ?_)
  have e_5 : x_5.toInt = k.toInt * 57 := by rw [ex_5]; exact zi_mul (rfl) (by decide) (by omega) (by omega)
  clear ex_5
  refine lv_bipush (v := 51) hx hb dX8_goesTo_23 (by decide) ?_
  refine lv_iadd hx hb dX8_goesTo_25 ?_
  refine lv_topi (fun x_6 ex_6 => ?_)
  have e_6 : x_6.toInt = x_5.toInt + 51 := by rw [ex_6]; exact zi_add (rfl) (by decide) (by omega) (by omega)
  clear ex_6
  refine lv_iload_n hx hb dX8_goesTo_26 rfl (lv_at hl 3 rfl) ?_
  refine lv_iadd hx hb dX8_goesTo_27 ?_
  refine lv_topi (fun x_7 ex_7 => ?_)
  have e_7 : x_7.toInt = x_6.toInt + v.toInt := by rw [ex_7]; exact zi_add (rfl) (rfl) (by omega) (by omega)
  clear ex_7
  refine va_iald hx hb hK hP 1 0 rfl rfl (zi_in (by omega) (by omega)) dX8_goesTo_28 ?_
  refine lv_topi (fun x_8 ex_8 => ?_)
  clear ex_8
  refine lv_istore (lv' := [(4, .int x_8), (3, .int x_4), (0, .ref h), (1, .int k), (2, .int v)]) hx hb dX8_goesTo_29 hl (by decide) rfl (fun ls hl => ?_)
  refine lv_aload_n hx hb dX8_goesTo_31 rfl (lv_at hl 2 rfl) ?_
  refine lv_iload_n hx hb dX8_goesTo_32 rfl (lv_at hl 3 rfl) ?_
  refine lv_iload_n hx hb dX8_goesTo_33 rfl (lv_at hl 1 rfl) ?_
  have k_9 := (g_X8_open l D cI cB cQ s.heap.size h sl zs ln ir tk tb tr fz na su le fu ap pp tc nm k x_4 sf v0 hsi (by omega) (by omega))
  refine wc_i (WC := [(h, .inr (7, [.ref sl, .int na, .ref zs, .ref ln, .ref ir, .ref tk, .int su, .int le, .ref tb, .int fu, .int ap, .int pp, .ref tr, .int tc, .ref fz, .int nm])), (sl, .inl (cI, 1653, .inl sf))]) (WR := []) (va_runV (As := [.int k, .int x_4]) (rest := []) ⟨hx, hb, hml, hown, hts⟩ k_9 (cwV 2 hts gX8_goesTo_X8_open rfl rfl rfl (by decide +kernel) ⟨Nat.le_of_ble_eq_true rfl, Nat.le_of_ble_eq_true rfl⟩) (wp_V hP hK hD hN [0, 1] (by decide) rfl (ci := 7) rfl rfl) rfl rfl hl.1 rfl (lv_room (Nat.le_of_ble_eq_true rfl)) dX8_goesTo_34 ⟨Nat.le_of_ble_eq_true rfl, Nat.le_of_ble_eq_true rfl⟩) hP hD hS hA [0, 1] [] rfl rfl (by decide) (by decide) (fun r_9 u_9 H locs hw_9 hP hD hS => ?_)
  clear k_9
  have hP : va_P D kl [(h, .inr (7, [.ref sl, .int na, .ref zs, .ref ln, .ref ir, .ref tk, .int su, .int le, .ref tb, .int fu, .int ap, .int pp, .ref tr, .int tc, .ref fz, .int nm])), (sl, .inl (cI, 1653, .inl sf))] H := hP
  have hD : va_D A [(h, .inr (7, [.ref sl, .int na, .ref zs, .ref ln, .ref ir, .ref tk, .int su, .int le, .ref tb, .int fu, .int ap, .int pp, .ref tr, .int tc, .ref fz, .int nm])), (sl, .inl (cI, 1653, .inl sf))] := hD
  clear hw_9
  refine lv_istore (lv' := [(5, .int r_9), (4, .int x_8), (3, .int x_4), (0, .ref h), (1, .int k), (2, .int v)]) hx hb dX8_goesTo_37 hl (by decide) rfl (fun ls hl => ?_)
  refine lv_aload_n hx hb dX8_goesTo_39 rfl (lv_at hl 3 rfl) ?_
  refine va_get (D := D) (ci := 7) (v := .ref sl) (C := RX8) (T := TX8) (N := 16) hx hb hts (fun _ h => List.mem_cons_of_mem _ (List.mem_append_right _ h)) hown hK hP 0 rfl rfl 0 (by decide) (hts (.fieldLink RX8 7 "WinterWalkModel" "slot" "[I") (List.mem_of_getElem? (i := 1) rfl)) (fun _ h9 => h9) rfl dX8_goesTo_40 ?_
  refine lv_iload_n hx hb dX8_goesTo_43 rfl (lv_at hl 4 rfl) ?_
  refine lv_bipush (v := 57) hx hb dX8_goesTo_44 (by decide) ?_
  refine lv_imul hx hb dX8_goesTo_46 ?_
  refine lv_topi (fun x_10 ex_10 => ?_)
  have e_10 : x_10.toInt = k.toInt * 57 := by rw [ex_10]; exact zi_mul (rfl) (by decide) (by omega) (by omega)
  clear ex_10
  refine lv_bipush (v := 20) hx hb dX8_goesTo_47 (by decide) ?_
  refine lv_iadd hx hb dX8_goesTo_49 ?_
  refine lv_topi (fun x_11 ex_11 => ?_)
  have e_11 : x_11.toInt = x_10.toInt + 20 := by rw [ex_11]; exact zi_add (rfl) (by decide) (by omega) (by omega)
  clear ex_11
  refine lv_iload_n hx hb dX8_goesTo_50 rfl (lv_at hl 5 rfl) ?_
  refine lv_iadd hx hb dX8_goesTo_51 ?_
  refine lv_topi (fun x_12 ex_12 => ?_)
  have e_12 : x_12.toInt = x_11.toInt + v.toInt := by rw [ex_12]; exact zi_add (rfl) (rfl) (by omega) (by omega)
  clear ex_12
  refine va_iald hx hb hK hP 1 0 rfl rfl (zi_in (by omega) (by omega)) dX8_goesTo_52 ?_
  refine lv_topi (fun x_13 ex_13 => ?_)
  clear ex_13
  by_cases f_14 : x_13.toInt < 1 ∨ 4 < x_13.toInt
  · refine lv_tableOut (tgt := 171) hx hb dX8_goesTo_53 f_14 (by decide) ?_
    refine lv_aload_n hx hb dX8_goesTo_171 rfl (lv_at hl 3 rfl) ?_
    refine lv_iload_n hx hb dX8_goesTo_172 rfl (lv_at hl 4 rfl) ?_
    refine lv_aload_n hx hb dX8_goesTo_173 rfl (lv_at hl 3 rfl) ?_
    refine lv_iload_n hx hb dX8_goesTo_174 rfl (lv_at hl 4 rfl) ?_
    refine lv_iload_n hx hb dX8_goesTo_175 rfl (lv_at hl 2 rfl) ?_
    have k_15 := (g_X8_rarest l D cI cB cQ H.size h sl zs ln ir tk tb tr fz na su le fu ap pp tc nm k x_4 sf v0 hsi (by omega) (by omega))
    refine wc_i (WC := [(h, .inr (7, [.ref sl, .int na, .ref zs, .ref ln, .ref ir, .ref tk, .int su, .int le, .ref tb, .int fu, .int ap, .int pp, .ref tr, .int tc, .ref fz, .int nm])), (sl, .inl (cI, 1653, .inl sf))]) (WR := []) (va_runV (As := [.int k, .int x_4]) (rest := [.int k, .ref h]) ⟨hx, hb, hml, hown, hts⟩ k_15 (cwV 2 hts gX8_goesTo_X8_rarest rfl rfl rfl (by decide +kernel) ⟨Nat.le_of_ble_eq_true rfl, Nat.le_of_ble_eq_true rfl⟩) (wp_V hP hK hD hN [0, 1] (by decide) rfl (ci := 7) rfl rfl) rfl rfl hl.1 rfl (lv_room (Nat.le_of_ble_eq_true rfl)) dX8_goesTo_176 ⟨Nat.le_of_ble_eq_true rfl, Nat.le_of_ble_eq_true rfl⟩) hP hD hS hA [0, 1] [] rfl rfl (by decide) (by decide) (fun r_15 u_15 H locs hw_15 hP hD hS => ?_)
    clear k_15
    have hP : va_P D kl [(h, .inr (7, [.ref sl, .int na, .ref zs, .ref ln, .ref ir, .ref tk, .int su, .int le, .ref tb, .int fu, .int ap, .int pp, .ref tr, .int tc, .ref fz, .int nm])), (sl, .inl (cI, 1653, .inl sf))] H := hP
    have hD : va_D A [(h, .inr (7, [.ref sl, .int na, .ref zs, .ref ln, .ref ir, .ref tk, .int su, .int le, .ref tb, .int fu, .int ap, .int pp, .ref tr, .int tc, .ref fz, .int nm])), (sl, .inl (cI, 1653, .inl sf))] := hD
    have c15_0 := hw_15
    have c15_0 : 0 ≤ r_15.toInt ∧ r_15.toInt ≤ 7 := c15_0
    have k_16 := (g_X8_rarest l D cI cB cQ H.size h sl zs ln ir tk tb tr fz na su le fu ap pp tc nm k r_15 sf v0 hsi (by omega) (by omega))
    refine wc_i (WC := [(h, .inr (7, [.ref sl, .int na, .ref zs, .ref ln, .ref ir, .ref tk, .int su, .int le, .ref tb, .int fu, .int ap, .int pp, .ref tr, .int tc, .ref fz, .int nm])), (sl, .inl (cI, 1653, .inl sf))]) (WR := []) (va_runV (As := [.int k, .int r_15]) (rest := []) ⟨hx, hb, hml, hown, hts⟩ k_16 (cwV 2 hts gX8_goesTo_X8_rarest rfl rfl rfl (by decide +kernel) ⟨Nat.le_of_ble_eq_true rfl, Nat.le_of_ble_eq_true rfl⟩) (wp_V hP hK hD hN [0, 1] (by decide) rfl (ci := 7) rfl rfl) rfl rfl hl.1 rfl (lv_room (Nat.le_of_ble_eq_true rfl)) dX8_goesTo_179 ⟨Nat.le_of_ble_eq_true rfl, Nat.le_of_ble_eq_true rfl⟩) hP hD hS hA [0, 1] [] rfl rfl (by decide) (by decide) (fun r_16 u_16 H locs hw_16 hP hD hS => ?_)
    clear k_16
    have hP : va_P D kl [(h, .inr (7, [.ref sl, .int na, .ref zs, .ref ln, .ref ir, .ref tk, .int su, .int le, .ref tb, .int fu, .int ap, .int pp, .ref tr, .int tc, .ref fz, .int nm])), (sl, .inl (cI, 1653, .inl sf))] H := hP
    have hD : va_D A [(h, .inr (7, [.ref sl, .int na, .ref zs, .ref ln, .ref ir, .ref tk, .int su, .int le, .ref tb, .int fu, .int ap, .int pp, .ref tr, .int tc, .ref fz, .int nm])), (sl, .inl (cI, 1653, .inl sf))] := hD
    have c16_0 := hw_16
    have c16_0 : 0 ≤ r_16.toInt ∧ r_16.toInt ≤ 7 := c16_0
    exact wr_i (v := r_16) hx hb hr hlocks hS () (by exact (by omega)) (hP.sub [0, 1] rfl) (hD.sub [0, 1] (by decide) rfl) dX8_goesTo_182
  · rcases (show x_13.toInt = 1 ∨ x_13.toInt = 2 ∨ x_13.toInt = 3 ∨ x_13.toInt = 4 by omega) with g_14 | g_14 | g_14 | g_14
    · refine lv_tableIn (off := 31) (tgt := 84) hx hb dX8_goesTo_53 (by omega) (by omega) (by rw [g_14]; rfl) (by decide) ?_
      refine lv_aload_n hx hb dX8_goesTo_84 rfl (lv_at hl 3 rfl) ?_
      refine lv_iload_n hx hb dX8_goesTo_85 rfl (lv_at hl 4 rfl) ?_
      refine lv_iload hx hb dX8_goesTo_86 (lv_at hl 0 rfl) ?_
      refine lv_iload_n hx hb dX8_goesTo_88 rfl (lv_at hl 2 rfl) ?_
      have k_17 := (g_X8_dearest l D cI cB cQ H.size h sl zs ln ir tk tb tr fz na su le fu ap pp tc nm k r_9 x_4 sf v0 hsi (by omega) (by omega))
      refine wc_i (WC := [(h, .inr (7, [.ref sl, .int na, .ref zs, .ref ln, .ref ir, .ref tk, .int su, .int le, .ref tb, .int fu, .int ap, .int pp, .ref tr, .int tc, .ref fz, .int nm])), (sl, .inl (cI, 1653, .inl sf))]) (WR := []) (va_runV (As := [.int k, .int r_9, .int x_4]) (rest := []) ⟨hx, hb, hml, hown, hts⟩ k_17 (cwV 3 hts gX8_goesTo_X8_dearest rfl rfl rfl (by decide +kernel) ⟨Nat.le_of_ble_eq_true rfl, Nat.le_of_ble_eq_true rfl⟩) (wp_V hP hK hD hN [0, 1] (by decide) rfl (ci := 7) rfl rfl) rfl rfl hl.1 rfl (lv_room (Nat.le_of_ble_eq_true rfl)) dX8_goesTo_89 ⟨Nat.le_of_ble_eq_true rfl, Nat.le_of_ble_eq_true rfl⟩) hP hD hS hA [0, 1] [] rfl rfl (by decide) (by decide) (fun r_17 u_17 H locs hw_17 hP hD hS => ?_)
      clear k_17
      have hP : va_P D kl [(h, .inr (7, [.ref sl, .int na, .ref zs, .ref ln, .ref ir, .ref tk, .int su, .int le, .ref tb, .int fu, .int ap, .int pp, .ref tr, .int tc, .ref fz, .int nm])), (sl, .inl (cI, 1653, .inl sf))] H := hP
      have hD : va_D A [(h, .inr (7, [.ref sl, .int na, .ref zs, .ref ln, .ref ir, .ref tk, .int su, .int le, .ref tb, .int fu, .int ap, .int pp, .ref tr, .int tc, .ref fz, .int nm])), (sl, .inl (cI, 1653, .inl sf))] := hD
      have c17_0 := hw_17
      have c17_0 : 0 ≤ r_17.toInt ∧ r_17.toInt ≤ 7 := c17_0
      exact wr_i (v := r_17) hx hb hr hlocks hS () (by exact (by omega)) (hP.sub [0, 1] rfl) (hD.sub [0, 1] (by decide) rfl) dX8_goesTo_92
    · refine lv_tableIn (off := 40) (tgt := 93) hx hb dX8_goesTo_53 (by omega) (by omega) (by rw [g_14]; rfl) (by decide) ?_
      refine lv_aload_n hx hb dX8_goesTo_93 rfl (lv_at hl 3 rfl) ?_
      refine va_get (D := D) (ci := 7) (v := .ref sl) (C := RX8) (T := TX8) (N := 16) hx hb hts (fun _ h => List.mem_cons_of_mem _ (List.mem_append_right _ h)) hown hK hP 0 rfl rfl 0 (by decide) (hts (.fieldLink RX8 7 "WinterWalkModel" "slot" "[I") (List.mem_of_getElem? (i := 1) rfl)) (fun _ h9 => h9) rfl dX8_goesTo_94 ?_
      refine lv_iload_n hx hb dX8_goesTo_97 rfl (lv_at hl 4 rfl) ?_
      refine lv_bipush (v := 57) hx hb dX8_goesTo_98 (by decide) ?_
      refine lv_imul hx hb dX8_goesTo_100 ?_
      refine lv_topi (fun x_18 ex_18 => ?_)
      have e_18 : x_18.toInt = k.toInt * 57 := by rw [ex_18]; exact zi_mul (rfl) (by decide) (by omega) (by omega)
      clear ex_18
      refine lv_bipush (v := 54) hx hb dX8_goesTo_101 (by decide) ?_
      refine lv_iadd hx hb dX8_goesTo_103 ?_
      refine lv_topi (fun x_19 ex_19 => ?_)
      have e_19 : x_19.toInt = x_18.toInt + 54 := by rw [ex_19]; exact zi_add (rfl) (by decide) (by omega) (by omega)
      clear ex_19
      refine va_iald hx hb hK hP 1 0 rfl rfl (zi_in (by omega) (by omega)) dX8_goesTo_104 ?_
      refine lv_topi (fun x_20 ex_20 => ?_)
      clear ex_20
      refine lv_iconst (v := 3) hx hb dX8_goesTo_105 (by decide) ?_
      refine lv_irem hx hb dX8_goesTo_106 (by decide) ?_
      refine lv_topi (fun x_21 ex_21 => ?_)
      clear ex_21
      refine lv_iconst (v := 2) hx hb dX8_goesTo_107 (by decide) ?_
      refine lv_icmp_ne (tgt := 115) hx hb dX8_goesTo_108 (by decide) (fun c_22 => ?_) (fun c_22 => ?_)
      · have f_22 : ¬ x_21.toInt = 2 := zi_ne c_22
        refine lv_aload_n hx hb dX8_goesTo_115 rfl (lv_at hl 3 rfl) ?_
        refine lv_iload_n hx hb dX8_goesTo_116 rfl (lv_at hl 4 rfl) ?_
        refine lv_iload hx hb dX8_goesTo_117 (lv_at hl 0 rfl) ?_
        refine lv_iload_n hx hb dX8_goesTo_119 rfl (lv_at hl 2 rfl) ?_
        have k_23 := (g_X8_dearest l D cI cB cQ H.size h sl zs ln ir tk tb tr fz na su le fu ap pp tc nm k r_9 x_4 sf v0 hsi (by omega) (by omega))
        refine wc_i (WC := [(h, .inr (7, [.ref sl, .int na, .ref zs, .ref ln, .ref ir, .ref tk, .int su, .int le, .ref tb, .int fu, .int ap, .int pp, .ref tr, .int tc, .ref fz, .int nm])), (sl, .inl (cI, 1653, .inl sf))]) (WR := []) (va_runV (As := [.int k, .int r_9, .int x_4]) (rest := []) ⟨hx, hb, hml, hown, hts⟩ k_23 (cwV 3 hts gX8_goesTo_X8_dearest rfl rfl rfl (by decide +kernel) ⟨Nat.le_of_ble_eq_true rfl, Nat.le_of_ble_eq_true rfl⟩) (wp_V hP hK hD hN [0, 1] (by decide) rfl (ci := 7) rfl rfl) rfl rfl hl.1 rfl (lv_room (Nat.le_of_ble_eq_true rfl)) dX8_goesTo_120 ⟨Nat.le_of_ble_eq_true rfl, Nat.le_of_ble_eq_true rfl⟩) hP hD hS hA [0, 1] [] rfl rfl (by decide) (by decide) (fun r_23 u_23 H locs hw_23 hP hD hS => ?_)
        clear k_23
        have hP : va_P D kl [(h, .inr (7, [.ref sl, .int na, .ref zs, .ref ln, .ref ir, .ref tk, .int su, .int le, .ref tb, .int fu, .int ap, .int pp, .ref tr, .int tc, .ref fz, .int nm])), (sl, .inl (cI, 1653, .inl sf))] H := hP
        have hD : va_D A [(h, .inr (7, [.ref sl, .int na, .ref zs, .ref ln, .ref ir, .ref tk, .int su, .int le, .ref tb, .int fu, .int ap, .int pp, .ref tr, .int tc, .ref fz, .int nm])), (sl, .inl (cI, 1653, .inl sf))] := hD
        have c23_0 := hw_23
        have c23_0 : 0 ≤ r_23.toInt ∧ r_23.toInt ≤ 7 := c23_0
        exact wr_i (v := r_23) hx hb hr hlocks hS () (by exact (by omega)) (hP.sub [0, 1] rfl) (hD.sub [0, 1] (by decide) rfl) dX8_goesTo_123
      · have f_22 : x_21.toInt = 2 := zi_eq c_22
        refine lv_iload_n hx hb dX8_goesTo_111 rfl (lv_at hl 2 rfl) ?_
        refine lv_goto (tgt := 123) hx hb dX8_goesTo_112 (by decide) ?_
        exact wr_i (v := x_4) hx hb hr hlocks hS () (by exact (by omega)) (hP.sub [0, 1] rfl) (hD.sub [0, 1] (by decide) rfl) dX8_goesTo_123
    · refine lv_tableIn (off := 71) (tgt := 124) hx hb dX8_goesTo_53 (by omega) (by omega) (by rw [g_14]; rfl) (by decide) ?_
      refine lv_iload hx hb dX8_goesTo_124 (lv_at hl 1 rfl) ?_
      refine lv_if_ge (tgt := 134) hx hb dX8_goesTo_126 (by decide) (fun c_24 => ?_) (fun c_24 => ?_)
      · have f_24 : 0 ≤ x_8.toInt := zi_le c_24
        refine lv_iload hx hb dX8_goesTo_134 (lv_at hl 0 rfl) ?_
        refine lv_iconst (v := 1) hx hb dX8_goesTo_136 (by decide) ?_
        refine lv_iload hx hb dX8_goesTo_137 (lv_at hl 1 rfl) ?_
        refine lv_ishl hx hb dX8_goesTo_139 ?_
        refine lv_topi (fun x_25 ex_25 => ?_)
        clear ex_25
        refine lv_iconst (v := (-1)) hx hb dX8_goesTo_140 (by decide) ?_
        refine lv_ixor hx hb dX8_goesTo_141 ?_
        refine lv_topi (fun x_26 ex_26 => ?_)
        clear ex_26
        refine lv_iand hx hb dX8_goesTo_142 ?_
        refine lv_topi (fun x_27 ex_27 => ?_)
        clear ex_27
        refine lv_istore (lv' := [(6, .int x_27), (5, .int r_9), (4, .int x_8), (3, .int x_4), (0, .ref h), (1, .int k), (2, .int v)]) hx hb dX8_goesTo_143 hl (by decide) rfl (fun ls hl => ?_)
        refine lv_aload_n hx hb dX8_goesTo_145 rfl (lv_at hl 4 rfl) ?_
        refine lv_iload_n hx hb dX8_goesTo_146 rfl (lv_at hl 5 rfl) ?_
        refine lv_iload hx hb dX8_goesTo_147 (lv_at hl 0 rfl) ?_
        refine lv_if_ne (tgt := 157) hx hb dX8_goesTo_149 (by decide) (fun c_28 => ?_) (fun c_28 => ?_)
        · have f_28 : ¬ x_27.toInt = 0 := zi_ne c_28
          refine lv_iload hx hb dX8_goesTo_157 (lv_at hl 0 rfl) ?_
          refine lv_iload_n hx hb dX8_goesTo_159 rfl (lv_at hl 3 rfl) ?_
          have k_29 := (g_X8_dearest l D cI cB cQ H.size h sl zs ln ir tk tb tr fz na su le fu ap pp tc nm k x_27 x_4 sf v0 hsi (by omega) (by omega))
          refine wc_i (WC := [(h, .inr (7, [.ref sl, .int na, .ref zs, .ref ln, .ref ir, .ref tk, .int su, .int le, .ref tb, .int fu, .int ap, .int pp, .ref tr, .int tc, .ref fz, .int nm])), (sl, .inl (cI, 1653, .inl sf))]) (WR := []) (va_runV (As := [.int k, .int x_27, .int x_4]) (rest := []) ⟨hx, hb, hml, hown, hts⟩ k_29 (cwV 3 hts gX8_goesTo_X8_dearest rfl rfl rfl (by decide +kernel) ⟨Nat.le_of_ble_eq_true rfl, Nat.le_of_ble_eq_true rfl⟩) (wp_V hP hK hD hN [0, 1] (by decide) rfl (ci := 7) rfl rfl) rfl rfl hl.1 rfl (lv_room (Nat.le_of_ble_eq_true rfl)) dX8_goesTo_160 ⟨Nat.le_of_ble_eq_true rfl, Nat.le_of_ble_eq_true rfl⟩) hP hD hS hA [0, 1] [] rfl rfl (by decide) (by decide) (fun r_29 u_29 H locs hw_29 hP hD hS => ?_)
          clear k_29
          have hP : va_P D kl [(h, .inr (7, [.ref sl, .int na, .ref zs, .ref ln, .ref ir, .ref tk, .int su, .int le, .ref tb, .int fu, .int ap, .int pp, .ref tr, .int tc, .ref fz, .int nm])), (sl, .inl (cI, 1653, .inl sf))] H := hP
          have hD : va_D A [(h, .inr (7, [.ref sl, .int na, .ref zs, .ref ln, .ref ir, .ref tk, .int su, .int le, .ref tb, .int fu, .int ap, .int pp, .ref tr, .int tc, .ref fz, .int nm])), (sl, .inl (cI, 1653, .inl sf))] := hD
          have c29_0 := hw_29
          have c29_0 : 0 ≤ r_29.toInt ∧ r_29.toInt ≤ 7 := c29_0
          exact wr_i (v := r_29) hx hb hr hlocks hS () (by exact (by omega)) (hP.sub [0, 1] rfl) (hD.sub [0, 1] (by decide) rfl) dX8_goesTo_163
        · have f_28 : x_27.toInt = 0 := zi_eq c_28
          refine lv_iload hx hb dX8_goesTo_152 (lv_at hl 1 rfl) ?_
          refine lv_goto (tgt := 159) hx hb dX8_goesTo_154 (by decide) ?_
          refine lv_iload_n hx hb dX8_goesTo_159 rfl (lv_at hl 3 rfl) ?_
          have k_30 := (g_X8_dearest l D cI cB cQ H.size h sl zs ln ir tk tb tr fz na su le fu ap pp tc nm k r_9 x_4 sf v0 hsi (by omega) (by omega))
          refine wc_i (WC := [(h, .inr (7, [.ref sl, .int na, .ref zs, .ref ln, .ref ir, .ref tk, .int su, .int le, .ref tb, .int fu, .int ap, .int pp, .ref tr, .int tc, .ref fz, .int nm])), (sl, .inl (cI, 1653, .inl sf))]) (WR := []) (va_runV (As := [.int k, .int r_9, .int x_4]) (rest := []) ⟨hx, hb, hml, hown, hts⟩ k_30 (cwV 3 hts gX8_goesTo_X8_dearest rfl rfl rfl (by decide +kernel) ⟨Nat.le_of_ble_eq_true rfl, Nat.le_of_ble_eq_true rfl⟩) (wp_V hP hK hD hN [0, 1] (by decide) rfl (ci := 7) rfl rfl) rfl rfl hl.1 rfl (lv_room (Nat.le_of_ble_eq_true rfl)) dX8_goesTo_160 ⟨Nat.le_of_ble_eq_true rfl, Nat.le_of_ble_eq_true rfl⟩) hP hD hS hA [0, 1] [] rfl rfl (by decide) (by decide) (fun r_30 u_30 H locs hw_30 hP hD hS => ?_)
          clear k_30
          have hP : va_P D kl [(h, .inr (7, [.ref sl, .int na, .ref zs, .ref ln, .ref ir, .ref tk, .int su, .int le, .ref tb, .int fu, .int ap, .int pp, .ref tr, .int tc, .ref fz, .int nm])), (sl, .inl (cI, 1653, .inl sf))] H := hP
          have hD : va_D A [(h, .inr (7, [.ref sl, .int na, .ref zs, .ref ln, .ref ir, .ref tk, .int su, .int le, .ref tb, .int fu, .int ap, .int pp, .ref tr, .int tc, .ref fz, .int nm])), (sl, .inl (cI, 1653, .inl sf))] := hD
          have c30_0 := hw_30
          have c30_0 : 0 ≤ r_30.toInt ∧ r_30.toInt ≤ 7 := c30_0
          exact wr_i (v := r_30) hx hb hr hlocks hS () (by exact (by omega)) (hP.sub [0, 1] rfl) (hD.sub [0, 1] (by decide) rfl) dX8_goesTo_163
      · have f_24 : ¬ 0 ≤ x_8.toInt := zi_nle c_24
        refine lv_iload hx hb dX8_goesTo_129 (lv_at hl 0 rfl) ?_
        refine lv_goto (tgt := 143) hx hb dX8_goesTo_131 (by decide) ?_
        refine lv_istore (lv' := [(6, .int r_9), (5, .int r_9), (4, .int x_8), (3, .int x_4), (0, .ref h), (1, .int k), (2, .int v)]) hx hb dX8_goesTo_143 hl (by decide) rfl (fun ls hl => ?_)
        refine lv_aload_n hx hb dX8_goesTo_145 rfl (lv_at hl 4 rfl) ?_
        refine lv_iload_n hx hb dX8_goesTo_146 rfl (lv_at hl 5 rfl) ?_
        refine lv_iload hx hb dX8_goesTo_147 (lv_at hl 0 rfl) ?_
        refine lv_if_ne (tgt := 157) hx hb dX8_goesTo_149 (by decide) (fun c_31 => ?_) (fun c_31 => ?_)
        · have f_31 : ¬ r_9.toInt = 0 := zi_ne c_31
          refine lv_iload hx hb dX8_goesTo_157 (lv_at hl 0 rfl) ?_
          refine lv_iload_n hx hb dX8_goesTo_159 rfl (lv_at hl 3 rfl) ?_
          have k_32 := (g_X8_dearest l D cI cB cQ H.size h sl zs ln ir tk tb tr fz na su le fu ap pp tc nm k r_9 x_4 sf v0 hsi (by omega) (by omega))
          refine wc_i (WC := [(h, .inr (7, [.ref sl, .int na, .ref zs, .ref ln, .ref ir, .ref tk, .int su, .int le, .ref tb, .int fu, .int ap, .int pp, .ref tr, .int tc, .ref fz, .int nm])), (sl, .inl (cI, 1653, .inl sf))]) (WR := []) (va_runV (As := [.int k, .int r_9, .int x_4]) (rest := []) ⟨hx, hb, hml, hown, hts⟩ k_32 (cwV 3 hts gX8_goesTo_X8_dearest rfl rfl rfl (by decide +kernel) ⟨Nat.le_of_ble_eq_true rfl, Nat.le_of_ble_eq_true rfl⟩) (wp_V hP hK hD hN [0, 1] (by decide) rfl (ci := 7) rfl rfl) rfl rfl hl.1 rfl (lv_room (Nat.le_of_ble_eq_true rfl)) dX8_goesTo_160 ⟨Nat.le_of_ble_eq_true rfl, Nat.le_of_ble_eq_true rfl⟩) hP hD hS hA [0, 1] [] rfl rfl (by decide) (by decide) (fun r_32 u_32 H locs hw_32 hP hD hS => ?_)
          clear k_32
          have hP : va_P D kl [(h, .inr (7, [.ref sl, .int na, .ref zs, .ref ln, .ref ir, .ref tk, .int su, .int le, .ref tb, .int fu, .int ap, .int pp, .ref tr, .int tc, .ref fz, .int nm])), (sl, .inl (cI, 1653, .inl sf))] H := hP
          have hD : va_D A [(h, .inr (7, [.ref sl, .int na, .ref zs, .ref ln, .ref ir, .ref tk, .int su, .int le, .ref tb, .int fu, .int ap, .int pp, .ref tr, .int tc, .ref fz, .int nm])), (sl, .inl (cI, 1653, .inl sf))] := hD
          have c32_0 := hw_32
          have c32_0 : 0 ≤ r_32.toInt ∧ r_32.toInt ≤ 7 := c32_0
          exact wr_i (v := r_32) hx hb hr hlocks hS () (by exact (by omega)) (hP.sub [0, 1] rfl) (hD.sub [0, 1] (by decide) rfl) dX8_goesTo_163
        · have f_31 : r_9.toInt = 0 := zi_eq c_31
          refine lv_iload hx hb dX8_goesTo_152 (lv_at hl 1 rfl) ?_
          refine lv_goto (tgt := 159) hx hb dX8_goesTo_154 (by decide) ?_
          refine lv_iload_n hx hb dX8_goesTo_159 rfl (lv_at hl 3 rfl) ?_
          have k_33 := (g_X8_dearest l D cI cB cQ H.size h sl zs ln ir tk tb tr fz na su le fu ap pp tc nm k r_9 x_4 sf v0 hsi (by omega) (by omega))
          refine wc_i (WC := [(h, .inr (7, [.ref sl, .int na, .ref zs, .ref ln, .ref ir, .ref tk, .int su, .int le, .ref tb, .int fu, .int ap, .int pp, .ref tr, .int tc, .ref fz, .int nm])), (sl, .inl (cI, 1653, .inl sf))]) (WR := []) (va_runV (As := [.int k, .int r_9, .int x_4]) (rest := []) ⟨hx, hb, hml, hown, hts⟩ k_33 (cwV 3 hts gX8_goesTo_X8_dearest rfl rfl rfl (by decide +kernel) ⟨Nat.le_of_ble_eq_true rfl, Nat.le_of_ble_eq_true rfl⟩) (wp_V hP hK hD hN [0, 1] (by decide) rfl (ci := 7) rfl rfl) rfl rfl hl.1 rfl (lv_room (Nat.le_of_ble_eq_true rfl)) dX8_goesTo_160 ⟨Nat.le_of_ble_eq_true rfl, Nat.le_of_ble_eq_true rfl⟩) hP hD hS hA [0, 1] [] rfl rfl (by decide) (by decide) (fun r_33 u_33 H locs hw_33 hP hD hS => ?_)
          clear k_33
          have hP : va_P D kl [(h, .inr (7, [.ref sl, .int na, .ref zs, .ref ln, .ref ir, .ref tk, .int su, .int le, .ref tb, .int fu, .int ap, .int pp, .ref tr, .int tc, .ref fz, .int nm])), (sl, .inl (cI, 1653, .inl sf))] H := hP
          have hD : va_D A [(h, .inr (7, [.ref sl, .int na, .ref zs, .ref ln, .ref ir, .ref tk, .int su, .int le, .ref tb, .int fu, .int ap, .int pp, .ref tr, .int tc, .ref fz, .int nm])), (sl, .inl (cI, 1653, .inl sf))] := hD
          have c33_0 := hw_33
          have c33_0 : 0 ≤ r_33.toInt ∧ r_33.toInt ≤ 7 := c33_0
          exact wr_i (v := r_33) hx hb hr hlocks hS () (by exact (by omega)) (hP.sub [0, 1] rfl) (hD.sub [0, 1] (by decide) rfl) dX8_goesTo_163
    · refine lv_tableIn (off := 111) (tgt := 164) hx hb dX8_goesTo_53 (by omega) (by omega) (by rw [g_14]; rfl) (by decide) ?_
      refine lv_aload_n hx hb dX8_goesTo_164 rfl (lv_at hl 3 rfl) ?_
      refine lv_iload_n hx hb dX8_goesTo_165 rfl (lv_at hl 4 rfl) ?_
      refine lv_iload_n hx hb dX8_goesTo_166 rfl (lv_at hl 2 rfl) ?_
      have k_34 := (g_X8_rarest l D cI cB cQ H.size h sl zs ln ir tk tb tr fz na su le fu ap pp tc nm k x_4 sf v0 hsi (by omega) (by omega))
      refine wc_i (WC := [(h, .inr (7, [.ref sl, .int na, .ref zs, .ref ln, .ref ir, .ref tk, .int su, .int le, .ref tb, .int fu, .int ap, .int pp, .ref tr, .int tc, .ref fz, .int nm])), (sl, .inl (cI, 1653, .inl sf))]) (WR := []) (va_runV (As := [.int k, .int x_4]) (rest := []) ⟨hx, hb, hml, hown, hts⟩ k_34 (cwV 2 hts gX8_goesTo_X8_rarest rfl rfl rfl (by decide +kernel) ⟨Nat.le_of_ble_eq_true rfl, Nat.le_of_ble_eq_true rfl⟩) (wp_V hP hK hD hN [0, 1] (by decide) rfl (ci := 7) rfl rfl) rfl rfl hl.1 rfl (lv_room (Nat.le_of_ble_eq_true rfl)) dX8_goesTo_167 ⟨Nat.le_of_ble_eq_true rfl, Nat.le_of_ble_eq_true rfl⟩) hP hD hS hA [0, 1] [] rfl rfl (by decide) (by decide) (fun r_34 u_34 H locs hw_34 hP hD hS => ?_)
      clear k_34
      have hP : va_P D kl [(h, .inr (7, [.ref sl, .int na, .ref zs, .ref ln, .ref ir, .ref tk, .int su, .int le, .ref tb, .int fu, .int ap, .int pp, .ref tr, .int tc, .ref fz, .int nm])), (sl, .inl (cI, 1653, .inl sf))] H := hP
      have hD : va_D A [(h, .inr (7, [.ref sl, .int na, .ref zs, .ref ln, .ref ir, .ref tk, .int su, .int le, .ref tb, .int fu, .int ap, .int pp, .ref tr, .int tc, .ref fz, .int nm])), (sl, .inl (cI, 1653, .inl sf))] := hD
      have c34_0 := hw_34
      have c34_0 : 0 ≤ r_34.toInt ∧ r_34.toInt ≤ 7 := c34_0
      exact wr_i (v := r_34) hx hb hr hlocks hS () (by exact (by omega)) (hP.sub [0, 1] rfl) (hD.sub [0, 1] (by decide) rfl) dX8_goesTo_170
set_option maxHeartbeats 4000000 in
set_option maxRecDepth 100000 in
theorem g_X8_many (l : Launch) (D : va_G) (cI cB cQ : ClassId) (sz : Nat) (k : Int32) : mi l yX8_many wsX8_many ({ frames := 0, cells := 0, slots := 0, locals := 0 }) D cI cB cQ [.int k] sz [] (fun (r : Int32) (_u : Unit) => True) (fun _ => []) 0 0 := by
  refine wm_i (cc := cX8_many) (maxL := 3) (ret := (some .int)) (by decide) rfl (Nat.le_of_ble_eq_true rfl) ?_
  intro p e s m below meth c A ls hx hb hr hml hown hts hlocks hin hP hK hD hN hA hl hS
  have hown : s.vm.findClass RX8 = some m.cls := hown
  have hl : lv_has ls 3 [(0, .int k)] := hl
  change W p l e ({ frames := 0, cells := 0, slots := 0, locals := 0 }) s m ([.int k] : List Value).toArray below meth c s.heap [] 0 0 (MQ below (va_Qi (fun (r : Int32) (_u : Unit) => True) (fun u t => wb D A ((fun _ => []) u) t) A) ([.int k] : List Value).toArray s 0 0 A) (F0 m 0 ls [])
  refine lv_iconst (v := 0) hx hb dX8_many_0 (by decide) ?_
  refine lv_istore_n (lv' := [(1, .int 0), (0, .int k)]) hx hb dX8_many_1 rfl hl (by decide) rfl (fun ls hl => ?_)
  refine lv_iconst (v := 0) hx hb dX8_many_2 (by decide) ?_
  refine lv_istore_n (lv' := [(2, .int 0), (1, .int 0), (0, .int k)]) hx hb dX8_many_3 rfl hl (by decide) rfl (fun ls hl => ?_)
  have hL4 : ∀ (nf : Nat) (t2_c4 : Int32) (t1_c4 : Int32) (H : Heap) (locs : List Loc) (ls : Array Slot), (0 ≤ t2_c4.toInt ∧ t2_c4.toInt ≤ 8) → (8 - t2_c4.toInt).toNat < nf → va_P D kl [] H → va_D A [] → va_S A s.heap H locs → lv_has ls 3 [(2, .int t2_c4), (1, .int t1_c4), (0, .int k)] → W p l e ({ frames := 0, cells := 0, slots := 0, locals := 0 }) s m ([.int k] : List Value).toArray below meth c H locs 0 0 (MQ below (va_Qi (fun (r : Int32) (_u : Unit) => True) (fun u t => wb D A ((fun _ => []) u) t) A) ([.int k] : List Value).toArray s 0 0 A) (F0 m 4 ls []) := by
    intro nf
    induction nf with
    | zero =>
      intro t2_c4 t1_c4 H locs ls i_t2_c4 hm
      exact absurd hm (Nat.not_lt_zero _)
    | succ nf ih4 =>
      intro t2_c4 t1_c4 H locs ls i_t2_c4 hm4 hP hD hS hl
      refine lv_iload_n hx hb dX8_many_4 rfl (lv_at hl 0 rfl) ?_
      refine lv_bipush (v := 8) hx hb dX8_many_5 (by decide) ?_
      refine lv_icmp_ge (tgt := 24) hx hb dX8_many_7 (by decide) (fun c_1 => ?_) (fun c_1 => ?_)
      · have f_1 : 8 ≤ t2_c4.toInt := zi_le c_1
        refine lv_iload_n hx hb dX8_many_24 rfl (lv_at hl 1 rfl) ?_
        exact wr_i (v := t1_c4) hx hb hr hlocks hS () (by trivial) (hP.sub [] rfl) (hD.sub [] (by decide) rfl) dX8_many_25
      · have f_1 : ¬ 8 ≤ t2_c4.toInt := zi_nle c_1
        refine lv_iload_n hx hb dX8_many_10 rfl (lv_at hl 1 rfl) ?_
        refine lv_iload_n hx hb dX8_many_11 rfl (lv_at hl 2 rfl) ?_
        refine lv_iload_n hx hb dX8_many_12 rfl (lv_at hl 0 rfl) ?_
        refine lv_ishr hx hb dX8_many_13 ?_
        refine lv_topi (fun x_2 ex_2 => ?_)
        clear ex_2
        refine lv_iconst (v := 1) hx hb dX8_many_14 (by decide) ?_
        refine lv_iand hx hb dX8_many_15 ?_
        refine lv_topi (fun x_3 ex_3 => ?_)
        clear ex_3
        refine lv_iadd hx hb dX8_many_16 ?_
        refine lv_topi (fun x_4 ex_4 => ?_)
        clear ex_4
        refine lv_istore_n (lv' := [(1, .int x_4), (2, .int t2_c4), (0, .int k)]) hx hb dX8_many_17 rfl hl (by decide) rfl (fun ls hl => ?_)
        obtain ⟨x_5, ex_5⟩ : ∃ y : Int32, y = t2_c4 + Int32.ofInt 1 := ⟨_, rfl⟩
        refine lv_iinc (v := x_5) (lv' := [(2, .int x_5), (1, .int x_4), (0, .int k)]) hx hb dX8_many_18 hl (k := 1) rfl ex_5.symm (by decide) rfl (fun ls hl => ?_)
        have ex_5 : x_5 = t2_c4 + 1 := ex_5
        have e_5 : x_5.toInt = t2_c4.toInt + 1 := by rw [ex_5]; exact zi_add (rfl) (by decide) (by omega) (by omega)
        clear ex_5
        refine lv_goto (tgt := 4) hx hb dX8_many_21 (by decide) ?_
        exact ih4 x_5 x_4 _ _ _ (show 0 ≤ x_5.toInt ∧ x_5.toInt ≤ 8 from by omega) (by omega) (hP.sub [] rfl) (hD.sub [] (by decide) rfl) hS (lv_sub hl [0, 1, 2] rfl)
  exact hL4 (((8 - (0 : Int32).toInt).toNat) + 1) 0 0 _ _ _ (show 0 ≤ 0 ∧ 0 ≤ 8 from by omega) (Nat.lt_succ_self _) (hP.sub [] rfl) (hD.sub [] (by decide) rfl) hS (lv_sub hl [0, 1, 2] rfl)
set_option maxHeartbeats 4000000 in
set_option maxRecDepth 100000 in
theorem g_X8_village (l : Launch) (D : va_G) (cI cB cQ : ClassId) (sz : Nat) (h : Nat) (sl : Nat) (zs : Nat) (ln : Nat) (ir : Nat) (tk : Nat) (tb : Nat) (tr : Nat) (fz : Nat) (na : Int32) (su : Int32) (le : Int32) (fu : Int32) (ap : Int32) (pp : Int32) (tc : Int32) (nm : Int32) (v : Int32) (k : Int32) (sf : Nat → Int32) (v0 : Int) (hsi : SI sf v0) : mi l yX8_village wsX8_village ({ frames := 2, cells := 0, slots := 0, locals := 46 }) D cI cB cQ [.ref h, .int v, .int k] sz [(h, .inr (7, [.ref sl, .int na, .ref zs, .ref ln, .ref ir, .ref tk, .int su, .int le, .ref tb, .int fu, .int ap, .int pp, .ref tr, .int tc, .ref fz, .int nm])), (sl, .inl (cI, 1653, .inl sf))] (fun (r : Int32) (_u : Unit) => True) (fun _ => [(h, .inr (7, [.ref sl, .int na, .ref zs, .ref ln, .ref ir, .ref tk, .int su, .int le, .ref tb, .int fu, .int ap, .int pp, .ref tr, .int tc, .ref fz, .int nm])), (sl, .inl (cI, 1653, .inl sf))]) 0 0 := by
  refine wm_i (cc := cX8_village) (maxL := 3) (ret := (some .int)) (by decide) rfl (Nat.le_of_ble_eq_true rfl) ?_
  intro p e s m below meth c A ls hx hb hr hml hown hts hlocks hin hP hK hD hN hA hl hS
  have hown : s.vm.findClass RX8 = some m.cls := hown
  have hl : lv_has ls 3 [(0, .ref h), (1, .int v), (2, .int k)] := hl
  change W p l e ({ frames := 2, cells := 0, slots := 0, locals := 46 }) s m ([.ref h, .int v, .int k] : List Value).toArray below meth c s.heap [] 0 0 (MQ below (va_Qi (fun (r : Int32) (_u : Unit) => True) (fun u t => wb D A ((fun _ => [(h, .inr (7, [.ref sl, .int na, .ref zs, .ref ln, .ref ir, .ref tk, .int su, .int le, .ref tb, .int fu, .int ap, .int pp, .ref tr, .int tc, .ref fz, .int nm])), (sl, .inl (cI, 1653, .inl sf))]) u) t) A) ([.ref h, .int v, .int k] : List Value).toArray s 0 0 A) (F0 m 0 ls [])
  refine lv_aload_n hx hb dX8_village_0 rfl (lv_at hl 0 rfl) ?_
  refine lv_iload_n hx hb dX8_village_1 rfl (lv_at hl 1 rfl) ?_
  have k_1 := (g_X8_isVillageThere l D cI cB cQ s.heap.size h sl zs ln ir tk tb tr fz na su le fu ap pp tc nm v sf v0 hsi)
  refine wc_i (WC := [(h, .inr (7, [.ref sl, .int na, .ref zs, .ref ln, .ref ir, .ref tk, .int su, .int le, .ref tb, .int fu, .int ap, .int pp, .ref tr, .int tc, .ref fz, .int nm])), (sl, .inl (cI, 1653, .inl sf))]) (WR := []) (va_runV (As := [.int v]) (rest := []) ⟨hx, hb, hml, hown, hts⟩ k_1 (cwV 1 hts gX8_village_X8_isVillageThere rfl rfl rfl (by decide +kernel) ⟨Nat.le_of_ble_eq_true rfl, Nat.le_of_ble_eq_true rfl⟩) (wp_V hP hK hD hN [0, 1] (by decide) rfl (ci := 7) rfl rfl) rfl rfl hl.1 rfl (lv_room (Nat.le_of_ble_eq_true rfl)) dX8_village_2 ⟨Nat.le_of_ble_eq_true rfl, Nat.le_of_ble_eq_true rfl⟩) hP hD hS hA [0, 1] [] rfl rfl (by decide) (by decide) (fun r_1 u_1 H locs hw_1 hP hD hS => ?_)
  clear k_1
  have hP : va_P D kl [(h, .inr (7, [.ref sl, .int na, .ref zs, .ref ln, .ref ir, .ref tk, .int su, .int le, .ref tb, .int fu, .int ap, .int pp, .ref tr, .int tc, .ref fz, .int nm])), (sl, .inl (cI, 1653, .inl sf))] H := hP
  have hD : va_D A [(h, .inr (7, [.ref sl, .int na, .ref zs, .ref ln, .ref ir, .ref tk, .int su, .int le, .ref tb, .int fu, .int ap, .int pp, .ref tr, .int tc, .ref fz, .int nm])), (sl, .inl (cI, 1653, .inl sf))] := hD
  have c1_0 := hw_1
  rcases c1_0 with ⟨e_1, f_1⟩ | e_1
  · subst e_1
    have f_1 : 0 ≤ v.toInt ∧ v.toInt ≤ 7 ∧ v.toInt < v0 := f_1
    refine lv_if_eq (tgt := 20) hx hb dX8_village_5 (by decide) (fun c9 => absurd c9 (by decide)) (fun _ => ?_)
    refine lv_iload_n hx hb dX8_village_8 rfl (lv_at hl 2 rfl) ?_
    refine lv_i2l (v := (k.toInt64)) hx hb dX8_village_9 rfl ?_
    refine lv_lconst (v := 0) hx hb dX8_village_10 (by decide) ?_
    refine lv_ldc2 (v := 5) hx hb hown (hts (.constantLong RX8 155 (5)) (List.mem_of_getElem? (i := 1) rfl)) dX8_village_11 ?_
    have k_2 := (g_X8_in l D cI cB cQ H.size (k.toInt64) 0 5)
    refine wc_i (WC := []) (WR := [(h, .inr (7, [.ref sl, .int na, .ref zs, .ref ln, .ref ir, .ref tk, .int su, .int le, .ref tb, .int fu, .int ap, .int pp, .ref tr, .int tc, .ref fz, .int nm])), (sl, .inl (cI, 1653, .inl sf))]) (va_runS (As := [.long (k.toInt64), .long 0, .long 5]) (rest := []) ⟨hx, hb, hml, hown, hts⟩ k_2 (va_cwS 3 hts gX8_village_X8_in rfl rfl rfl (by decide +kernel) ⟨Nat.le_of_ble_eq_true rfl, Nat.le_of_ble_eq_true rfl⟩) (wp_S hP hK hD hN [] (by decide) rfl) rfl rfl hl.1 rfl (lv_room (Nat.le_of_ble_eq_true rfl)) dX8_village_14 ⟨Nat.le_of_ble_eq_true rfl, Nat.le_of_ble_eq_true rfl⟩) hP hD hS hA [] [0, 1] rfl rfl (by decide) (by decide) (fun r_2 u_2 H locs hw_2 hP hD hS => ?_)
    clear k_2
    have hP : va_P D kl [(h, .inr (7, [.ref sl, .int na, .ref zs, .ref ln, .ref ir, .ref tk, .int su, .int le, .ref tb, .int fu, .int ap, .int pp, .ref tr, .int tc, .ref fz, .int nm])), (sl, .inl (cI, 1653, .inl sf))] H := hP
    have hD : va_D A [(h, .inr (7, [.ref sl, .int na, .ref zs, .ref ln, .ref ir, .ref tk, .int su, .int le, .ref tb, .int fu, .int ap, .int pp, .ref tr, .int tc, .ref fz, .int nm])), (sl, .inl (cI, 1653, .inl sf))] := hD
    have c2_0 := hw_2
    rcases c2_0 with ⟨e_2, f_2⟩ | ⟨e_2, f_2⟩
    · subst e_2
      have f_2 : (0 : Int) ≤ k.toInt ∧ k.toInt ≤ (5 : Int) := by
        have h8 := f_2
        try simp only [zl_of] at h8
        exact h8
      refine lv_if_ne (tgt := 23) hx hb dX8_village_17 (by decide) (fun _ => ?_) (fun c9 => absurd c9 (by decide))
      refine lv_iload_n hx hb dX8_village_23 rfl (lv_at hl 2 rfl) ?_
      by_cases f_3 : k.toInt < 0 ∨ 4 < k.toInt
      · refine lv_tableOut (tgt := 111) hx hb dX8_village_24 f_3 (by decide) ?_
        refine lv_aload_n hx hb dX8_village_111 rfl (lv_at hl 0 rfl) ?_
        refine va_get (D := D) (ci := 7) (v := .ref sl) (C := RX8) (T := TX8) (N := 16) hx hb hts (fun _ h => List.mem_cons_of_mem _ (List.mem_append_right _ h)) hown hK hP 0 rfl rfl 0 (by decide) (hts (.fieldLink RX8 7 "WinterWalkModel" "slot" "[I") (List.mem_of_getElem? (i := 3) rfl)) (fun _ h9 => h9) rfl dX8_village_112 ?_
        refine lv_bipush (v := 12) hx hb dX8_village_115 (by decide) ?_
        refine lv_iload_n hx hb dX8_village_117 rfl (lv_at hl 1 rfl) ?_
        refine lv_iadd hx hb dX8_village_118 ?_
        refine lv_topi (fun x_4 ex_4 => ?_)
        have e_4 : x_4.toInt = 12 + v.toInt := by rw [ex_4]; exact zi_add (by decide) (rfl) (by omega) (by omega)
        clear ex_4
        refine va_iald hx hb hK hP 1 0 rfl rfl (zi_in (by omega) (by omega)) dX8_village_119 ?_
        refine lv_topi (fun x_5 ex_5 => ?_)
        clear ex_5
        exact wr_i (v := x_5) hx hb hr hlocks hS () (by trivial) (hP.sub [0, 1] rfl) (hD.sub [0, 1] (by decide) rfl) dX8_village_120
      · rcases (show k.toInt = 0 ∨ k.toInt = 1 ∨ k.toInt = 2 ∨ k.toInt = 3 ∨ k.toInt = 4 by omega) with g_3 | g_3 | g_3 | g_3 | g_3
        · refine lv_tableIn (off := 36) (tgt := 60) hx hb dX8_village_24 (by omega) (by omega) (by rw [g_3]; rfl) (by decide) ?_
          refine lv_aload_n hx hb dX8_village_60 rfl (lv_at hl 0 rfl) ?_
          refine va_get (D := D) (ci := 7) (v := .ref sl) (C := RX8) (T := TX8) (N := 16) hx hb hts (fun _ h => List.mem_cons_of_mem _ (List.mem_append_right _ h)) hown hK hP 0 rfl rfl 0 (by decide) (hts (.fieldLink RX8 7 "WinterWalkModel" "slot" "[I") (List.mem_of_getElem? (i := 3) rfl)) (fun _ h9 => h9) rfl dX8_village_61 ?_
          refine lv_iconst (v := 4) hx hb dX8_village_64 (by decide) ?_
          refine lv_iload_n hx hb dX8_village_65 rfl (lv_at hl 1 rfl) ?_
          refine lv_iadd hx hb dX8_village_66 ?_
          refine lv_topi (fun x_6 ex_6 => ?_)
          have e_6 : x_6.toInt = 4 + v.toInt := by rw [ex_6]; exact zi_add (by decide) (rfl) (by omega) (by omega)
          clear ex_6
          refine va_iald hx hb hK hP 1 0 rfl rfl (zi_in (by omega) (by omega)) dX8_village_67 ?_
          refine lv_topi (fun x_7 ex_7 => ?_)
          clear ex_7
          exact wr_i (v := x_7) hx hb hr hlocks hS () (by trivial) (hP.sub [0, 1] rfl) (hD.sub [0, 1] (by decide) rfl) dX8_village_68
        · refine lv_tableIn (off := 45) (tgt := 69) hx hb dX8_village_24 (by omega) (by omega) (by rw [g_3]; rfl) (by decide) ?_
          refine lv_aload_n hx hb dX8_village_69 rfl (lv_at hl 0 rfl) ?_
          refine va_get (D := D) (ci := 7) (v := .ref sl) (C := RX8) (T := TX8) (N := 16) hx hb hts (fun _ h => List.mem_cons_of_mem _ (List.mem_append_right _ h)) hown hK hP 0 rfl rfl 0 (by decide) (hts (.fieldLink RX8 7 "WinterWalkModel" "slot" "[I") (List.mem_of_getElem? (i := 3) rfl)) (fun _ h9 => h9) rfl dX8_village_70 ?_
          refine lv_bipush (v := 23) hx hb dX8_village_73 (by decide) ?_
          refine lv_iload_n hx hb dX8_village_75 rfl (lv_at hl 1 rfl) ?_
          refine lv_iadd hx hb dX8_village_76 ?_
          refine lv_topi (fun x_8 ex_8 => ?_)
          have e_8 : x_8.toInt = 23 + v.toInt := by rw [ex_8]; exact zi_add (by decide) (rfl) (by omega) (by omega)
          clear ex_8
          refine va_iald hx hb hK hP 1 0 rfl rfl (zi_in (by omega) (by omega)) dX8_village_77 ?_
          refine lv_topi (fun x_9 ex_9 => ?_)
          clear ex_9
          exact wr_i (v := x_9) hx hb hr hlocks hS () (by trivial) (hP.sub [0, 1] rfl) (hD.sub [0, 1] (by decide) rfl) dX8_village_78
        · refine lv_tableIn (off := 55) (tgt := 79) hx hb dX8_village_24 (by omega) (by omega) (by rw [g_3]; rfl) (by decide) ?_
          refine lv_aload_n hx hb dX8_village_79 rfl (lv_at hl 0 rfl) ?_
          refine va_get (D := D) (ci := 7) (v := .ref sl) (C := RX8) (T := TX8) (N := 16) hx hb hts (fun _ h => List.mem_cons_of_mem _ (List.mem_append_right _ h)) hown hK hP 0 rfl rfl 0 (by decide) (hts (.fieldLink RX8 7 "WinterWalkModel" "slot" "[I") (List.mem_of_getElem? (i := 3) rfl)) (fun _ h9 => h9) rfl dX8_village_80 ?_
          refine lv_bipush (v := 31) hx hb dX8_village_83 (by decide) ?_
          refine va_iald hx hb hK hP 1 0 rfl rfl (zi_in (by decide) (by decide)) dX8_village_85 ?_
          refine lv_topi (fun x_10 ex_10 => ?_)
          refine lv_iload_n hx hb dX8_village_86 rfl (lv_at hl 1 rfl) ?_
          refine lv_ishr hx hb dX8_village_87 ?_
          refine lv_topi (fun x_11 ex_11 => ?_)
          clear ex_11
          refine lv_iconst (v := 1) hx hb dX8_village_88 (by decide) ?_
          refine lv_iand hx hb dX8_village_89 ?_
          refine lv_topi (fun x_12 ex_12 => ?_)
          clear ex_12
          exact wr_i (v := x_12) hx hb hr hlocks hS () (by trivial) (hP.sub [0, 1] rfl) (hD.sub [0, 1] (by decide) rfl) dX8_village_90
        · refine lv_tableIn (off := 67) (tgt := 91) hx hb dX8_village_24 (by omega) (by omega) (by rw [g_3]; rfl) (by decide) ?_
          refine lv_aload_n hx hb dX8_village_91 rfl (lv_at hl 0 rfl) ?_
          refine va_get (D := D) (ci := 7) (v := .ref sl) (C := RX8) (T := TX8) (N := 16) hx hb hts (fun _ h => List.mem_cons_of_mem _ (List.mem_append_right _ h)) hown hK hP 0 rfl rfl 0 (by decide) (hts (.fieldLink RX8 7 "WinterWalkModel" "slot" "[I") (List.mem_of_getElem? (i := 3) rfl)) (fun _ h9 => h9) rfl dX8_village_92 ?_
          refine lv_bipush (v := 32) hx hb dX8_village_95 (by decide) ?_
          refine lv_iload_n hx hb dX8_village_97 rfl (lv_at hl 1 rfl) ?_
          refine lv_iadd hx hb dX8_village_98 ?_
          refine lv_topi (fun x_13 ex_13 => ?_)
          have e_13 : x_13.toInt = 32 + v.toInt := by rw [ex_13]; exact zi_add (by decide) (rfl) (by omega) (by omega)
          clear ex_13
          refine va_iald hx hb hK hP 1 0 rfl rfl (zi_in (by omega) (by omega)) dX8_village_99 ?_
          refine lv_topi (fun x_14 ex_14 => ?_)
          clear ex_14
          exact wr_i (v := x_14) hx hb hr hlocks hS () (by trivial) (hP.sub [0, 1] rfl) (hD.sub [0, 1] (by decide) rfl) dX8_village_100
        · refine lv_tableIn (off := 77) (tgt := 101) hx hb dX8_village_24 (by omega) (by omega) (by rw [g_3]; rfl) (by decide) ?_
          refine lv_aload_n hx hb dX8_village_101 rfl (lv_at hl 0 rfl) ?_
          refine va_get (D := D) (ci := 7) (v := .ref sl) (C := RX8) (T := TX8) (N := 16) hx hb hts (fun _ h => List.mem_cons_of_mem _ (List.mem_append_right _ h)) hown hK hP 0 rfl rfl 0 (by decide) (hts (.fieldLink RX8 7 "WinterWalkModel" "slot" "[I") (List.mem_of_getElem? (i := 3) rfl)) (fun _ h9 => h9) rfl dX8_village_102 ?_
          refine lv_bipush (v := 40) hx hb dX8_village_105 (by decide) ?_
          refine lv_iload_n hx hb dX8_village_107 rfl (lv_at hl 1 rfl) ?_
          refine lv_iadd hx hb dX8_village_108 ?_
          refine lv_topi (fun x_15 ex_15 => ?_)
          have e_15 : x_15.toInt = 40 + v.toInt := by rw [ex_15]; exact zi_add (by decide) (rfl) (by omega) (by omega)
          clear ex_15
          refine va_iald hx hb hK hP 1 0 rfl rfl (zi_in (by omega) (by omega)) dX8_village_109 ?_
          refine lv_topi (fun x_16 ex_16 => ?_)
          clear ex_16
          exact wr_i (v := x_16) hx hb hr hlocks hS () (by trivial) (hP.sub [0, 1] rfl) (hD.sub [0, 1] (by decide) rfl) dX8_village_110
    · subst e_2
      have f_2 : ¬ ((0 : Int) ≤ k.toInt ∧ k.toInt ≤ (5 : Int)) := by
        have h8 := f_2
        try simp only [zl_of] at h8
        exact h8
      refine lv_if_ne (tgt := 23) hx hb dX8_village_17 (by decide) (fun c9 => absurd (by decide) c9) (fun _ => ?_)
      refine lv_ldc (v := (-1000001)) hx hb hown (hts (.constant RX8 48 (-1000001)) (List.mem_of_getElem? (i := 2) rfl)) dX8_village_20 ?_
      exact wr_i (v := (-1000001)) hx hb hr hlocks hS () (by trivial) (hP.sub [0, 1] rfl) (hD.sub [0, 1] (by decide) rfl) dX8_village_22
  · subst e_1
    refine lv_if_eq (tgt := 20) hx hb dX8_village_5 (by decide) (fun _ => ?_) (fun c9 => absurd (by decide) c9)
    refine lv_ldc (v := (-1000001)) hx hb hown (hts (.constant RX8 48 (-1000001)) (List.mem_of_getElem? (i := 2) rfl)) dX8_village_20 ?_
    exact wr_i (v := (-1000001)) hx hb hr hlocks hS () (by trivial) (hP.sub [0, 1] rfl) (hD.sub [0, 1] (by decide) rfl) dX8_village_22
set_option maxHeartbeats 4000000 in
set_option maxRecDepth 100000 in
theorem g_X8_walker (l : Launch) (D : va_G) (cI cB cQ : ClassId) (sz : Nat) (h : Nat) (sl : Nat) (zs : Nat) (ln : Nat) (ir : Nat) (tk : Nat) (tb : Nat) (tr : Nat) (fz : Nat) (na : Int32) (su : Int32) (le : Int32) (fu : Int32) (ap : Int32) (pp : Int32) (tc : Int32) (nm : Int32) (v : Int32) (k : Int32) (sf : Nat → Int32) (v0 : Int) (hsi : SI sf v0) : mi l yX8_walker wsX8_walker ({ frames := 3, cells := 0, slots := 0, locals := 73 }) D cI cB cQ [.ref h, .int v, .int k] sz [(h, .inr (7, [.ref sl, .int na, .ref zs, .ref ln, .ref ir, .ref tk, .int su, .int le, .ref tb, .int fu, .int ap, .int pp, .ref tr, .int tc, .ref fz, .int nm])), (sl, .inl (cI, 1653, .inl sf))] (fun (r : Int32) (_u : Unit) => True) (fun _ => [(h, .inr (7, [.ref sl, .int na, .ref zs, .ref ln, .ref ir, .ref tk, .int su, .int le, .ref tb, .int fu, .int ap, .int pp, .ref tr, .int tc, .ref fz, .int nm])), (sl, .inl (cI, 1653, .inl sf))]) 0 0 := by
  refine wm_i (cc := cX8_walker) (maxL := 3) (ret := (some .int)) (by decide) rfl (Nat.le_of_ble_eq_true rfl) ?_
  intro p e s m below meth c A ls hx hb hr hml hown hts hlocks hin hP hK hD hN hA hl hS
  have hown : s.vm.findClass RX8 = some m.cls := hown
  have hl : lv_has ls 3 [(0, .ref h), (1, .int v), (2, .int k)] := hl
  change W p l e ({ frames := 3, cells := 0, slots := 0, locals := 73 }) s m ([.ref h, .int v, .int k] : List Value).toArray below meth c s.heap [] 0 0 (MQ below (va_Qi (fun (r : Int32) (_u : Unit) => True) (fun u t => wb D A ((fun _ => [(h, .inr (7, [.ref sl, .int na, .ref zs, .ref ln, .ref ir, .ref tk, .int su, .int le, .ref tb, .int fu, .int ap, .int pp, .ref tr, .int tc, .ref fz, .int nm])), (sl, .inl (cI, 1653, .inl sf))]) u) t) A) ([.ref h, .int v, .int k] : List Value).toArray s 0 0 A) (F0 m 0 ls [])
  refine lv_aload_n hx hb dX8_walker_0 rfl (lv_at hl 0 rfl) ?_
  refine lv_iload_n hx hb dX8_walker_1 rfl (lv_at hl 1 rfl) ?_
  have k_1 := (g_X8_isWalkerThere l D cI cB cQ s.heap.size h sl zs ln ir tk tb tr fz na su le fu ap pp tc nm v sf v0 hsi)
  refine wc_i (WC := [(h, .inr (7, [.ref sl, .int na, .ref zs, .ref ln, .ref ir, .ref tk, .int su, .int le, .ref tb, .int fu, .int ap, .int pp, .ref tr, .int tc, .ref fz, .int nm])), (sl, .inl (cI, 1653, .inl sf))]) (WR := []) (va_runV (As := [.int v]) (rest := []) ⟨hx, hb, hml, hown, hts⟩ k_1 (cwV 1 hts gX8_walker_X8_isWalkerThere rfl rfl rfl (by decide +kernel) ⟨Nat.le_of_ble_eq_true rfl, Nat.le_of_ble_eq_true rfl⟩) (wp_V hP hK hD hN [0, 1] (by decide) rfl (ci := 7) rfl rfl) rfl rfl hl.1 rfl (lv_room (Nat.le_of_ble_eq_true rfl)) dX8_walker_2 ⟨Nat.le_of_ble_eq_true rfl, Nat.le_of_ble_eq_true rfl⟩) hP hD hS hA [0, 1] [] rfl rfl (by decide) (by decide) (fun r_1 u_1 H locs hw_1 hP hD hS => ?_)
  clear k_1
  have hP : va_P D kl [(h, .inr (7, [.ref sl, .int na, .ref zs, .ref ln, .ref ir, .ref tk, .int su, .int le, .ref tb, .int fu, .int ap, .int pp, .ref tr, .int tc, .ref fz, .int nm])), (sl, .inl (cI, 1653, .inl sf))] H := hP
  have hD : va_D A [(h, .inr (7, [.ref sl, .int na, .ref zs, .ref ln, .ref ir, .ref tk, .int su, .int le, .ref tb, .int fu, .int ap, .int pp, .ref tr, .int tc, .ref fz, .int nm])), (sl, .inl (cI, 1653, .inl sf))] := hD
  have c1_0 := hw_1
  rcases c1_0 with ⟨e_1, f_1⟩ | e_1
  · subst e_1
    have f_1 : 0 ≤ v.toInt ∧ v.toInt ≤ 2 := f_1
    refine lv_if_eq (tgt := 20) hx hb dX8_walker_5 (by decide) (fun c9 => absurd c9 (by decide)) (fun _ => ?_)
    refine lv_iload_n hx hb dX8_walker_8 rfl (lv_at hl 2 rfl) ?_
    refine lv_i2l (v := (k.toInt64)) hx hb dX8_walker_9 rfl ?_
    refine lv_lconst (v := 0) hx hb dX8_walker_10 (by decide) ?_
    refine lv_ldc2 (v := 2) hx hb hown (hts (.constantLong RX8 46 (2)) (List.mem_of_getElem? (i := 1) rfl)) dX8_walker_11 ?_
    have k_2 := (g_X8_in l D cI cB cQ H.size (k.toInt64) 0 2)
    refine wc_i (WC := []) (WR := [(h, .inr (7, [.ref sl, .int na, .ref zs, .ref ln, .ref ir, .ref tk, .int su, .int le, .ref tb, .int fu, .int ap, .int pp, .ref tr, .int tc, .ref fz, .int nm])), (sl, .inl (cI, 1653, .inl sf))]) (va_runS (As := [.long (k.toInt64), .long 0, .long 2]) (rest := []) ⟨hx, hb, hml, hown, hts⟩ k_2 (va_cwS 3 hts gX8_walker_X8_in rfl rfl rfl (by decide +kernel) ⟨Nat.le_of_ble_eq_true rfl, Nat.le_of_ble_eq_true rfl⟩) (wp_S hP hK hD hN [] (by decide) rfl) rfl rfl hl.1 rfl (lv_room (Nat.le_of_ble_eq_true rfl)) dX8_walker_14 ⟨Nat.le_of_ble_eq_true rfl, Nat.le_of_ble_eq_true rfl⟩) hP hD hS hA [] [0, 1] rfl rfl (by decide) (by decide) (fun r_2 u_2 H locs hw_2 hP hD hS => ?_)
    clear k_2
    have hP : va_P D kl [(h, .inr (7, [.ref sl, .int na, .ref zs, .ref ln, .ref ir, .ref tk, .int su, .int le, .ref tb, .int fu, .int ap, .int pp, .ref tr, .int tc, .ref fz, .int nm])), (sl, .inl (cI, 1653, .inl sf))] H := hP
    have hD : va_D A [(h, .inr (7, [.ref sl, .int na, .ref zs, .ref ln, .ref ir, .ref tk, .int su, .int le, .ref tb, .int fu, .int ap, .int pp, .ref tr, .int tc, .ref fz, .int nm])), (sl, .inl (cI, 1653, .inl sf))] := hD
    have c2_0 := hw_2
    rcases c2_0 with ⟨e_2, f_2⟩ | ⟨e_2, f_2⟩
    · subst e_2
      have f_2 : (0 : Int) ≤ k.toInt ∧ k.toInt ≤ (2 : Int) := by
        have h8 := f_2
        try simp only [zl_of] at h8
        exact h8
      refine lv_if_ne (tgt := 23) hx hb dX8_walker_17 (by decide) (fun _ => ?_) (fun c9 => absurd c9 (by decide))
      refine lv_iload_n hx hb dX8_walker_23 rfl (lv_at hl 2 rfl) ?_
      refine lv_if_ne (tgt := 39) hx hb dX8_walker_24 (by decide) (fun c_3 => ?_) (fun c_3 => ?_)
      · have f_3 : ¬ k.toInt = 0 := zi_ne c_3
        refine lv_iload_n hx hb dX8_walker_39 rfl (lv_at hl 2 rfl) ?_
        refine lv_iconst (v := 1) hx hb dX8_walker_40 (by decide) ?_
        refine lv_icmp_ne (tgt := 56) hx hb dX8_walker_41 (by decide) (fun c_4 => ?_) (fun c_4 => ?_)
        · have f_4 : ¬ k.toInt = 1 := zi_ne c_4
          refine lv_aload_n hx hb dX8_walker_56 rfl (lv_at hl 0 rfl) ?_
          refine lv_iconst (v := 0) hx hb dX8_walker_57 (by decide) ?_
          refine lv_iload_n hx hb dX8_walker_58 rfl (lv_at hl 1 rfl) ?_
          have k_5 := (g_X8_goesTo l D cI cB cQ H.size h sl zs ln ir tk tb tr fz na su le fu ap pp tc nm 0 v sf v0 hsi ⟨by decide, by decide⟩ (by omega))
          refine wc_i (WC := [(h, .inr (7, [.ref sl, .int na, .ref zs, .ref ln, .ref ir, .ref tk, .int su, .int le, .ref tb, .int fu, .int ap, .int pp, .ref tr, .int tc, .ref fz, .int nm])), (sl, .inl (cI, 1653, .inl sf))]) (WR := []) (va_runV (As := [.int 0, .int v]) (rest := []) ⟨hx, hb, hml, hown, hts⟩ k_5 (cwV 2 hts gX8_walker_X8_goesTo rfl rfl rfl (by decide +kernel) ⟨Nat.le_of_ble_eq_true rfl, Nat.le_of_ble_eq_true rfl⟩) (wp_V hP hK hD hN [0, 1] (by decide) rfl (ci := 7) rfl rfl) rfl rfl hl.1 rfl (lv_room (Nat.le_of_ble_eq_true rfl)) dX8_walker_59 ⟨Nat.le_of_ble_eq_true rfl, Nat.le_of_ble_eq_true rfl⟩) hP hD hS hA [0, 1] [] rfl rfl (by decide) (by decide) (fun r_5 u_5 H locs hw_5 hP hD hS => ?_)
          clear k_5
          have hP : va_P D kl [(h, .inr (7, [.ref sl, .int na, .ref zs, .ref ln, .ref ir, .ref tk, .int su, .int le, .ref tb, .int fu, .int ap, .int pp, .ref tr, .int tc, .ref fz, .int nm])), (sl, .inl (cI, 1653, .inl sf))] H := hP
          have hD : va_D A [(h, .inr (7, [.ref sl, .int na, .ref zs, .ref ln, .ref ir, .ref tk, .int su, .int le, .ref tb, .int fu, .int ap, .int pp, .ref tr, .int tc, .ref fz, .int nm])), (sl, .inl (cI, 1653, .inl sf))] := hD
          have c5_0 := hw_5
          have c5_0 : 0 ≤ r_5.toInt ∧ r_5.toInt ≤ 7 := c5_0
          exact wr_i (v := r_5) hx hb hr hlocks hS () (by trivial) (hP.sub [0, 1] rfl) (hD.sub [0, 1] (by decide) rfl) dX8_walker_62
        · have f_4 : k.toInt = 1 := zi_eq c_4
          refine lv_aload_n hx hb dX8_walker_44 rfl (lv_at hl 0 rfl) ?_
          refine va_get (D := D) (ci := 7) (v := .ref sl) (C := RX8) (T := TX8) (N := 16) hx hb hts (fun _ h => List.mem_cons_of_mem _ (List.mem_append_right _ h)) hown hK hP 0 rfl rfl 0 (by decide) (hts (.fieldLink RX8 7 "WinterWalkModel" "slot" "[I") (List.mem_of_getElem? (i := 3) rfl)) (fun _ h9 => h9) rfl dX8_walker_45 ?_
          refine lv_bipush (v := 51) hx hb dX8_walker_48 (by decide) ?_
          refine lv_iload_n hx hb dX8_walker_50 rfl (lv_at hl 1 rfl) ?_
          refine lv_iadd hx hb dX8_walker_51 ?_
          refine lv_topi (fun x_6 ex_6 => ?_)
          have e_6 : x_6.toInt = 51 + v.toInt := by rw [ex_6]; exact zi_add (by decide) (rfl) (by omega) (by omega)
          clear ex_6
          refine va_iald hx hb hK hP 1 0 rfl rfl (zi_in (by omega) (by omega)) dX8_walker_52 ?_
          refine lv_topi (fun x_7 ex_7 => ?_)
          clear ex_7
          refine lv_goto (tgt := 62) hx hb dX8_walker_53 (by decide) ?_
          exact wr_i (v := x_7) hx hb hr hlocks hS () (by trivial) (hP.sub [0, 1] rfl) (hD.sub [0, 1] (by decide) rfl) dX8_walker_62
      · have f_3 : k.toInt = 0 := zi_eq c_3
        refine lv_aload_n hx hb dX8_walker_27 rfl (lv_at hl 0 rfl) ?_
        refine va_get (D := D) (ci := 7) (v := .ref sl) (C := RX8) (T := TX8) (N := 16) hx hb hts (fun _ h => List.mem_cons_of_mem _ (List.mem_append_right _ h)) hown hK hP 0 rfl rfl 0 (by decide) (hts (.fieldLink RX8 7 "WinterWalkModel" "slot" "[I") (List.mem_of_getElem? (i := 3) rfl)) (fun _ h9 => h9) rfl dX8_walker_28 ?_
        refine lv_bipush (v := 48) hx hb dX8_walker_31 (by decide) ?_
        refine lv_iload_n hx hb dX8_walker_33 rfl (lv_at hl 1 rfl) ?_
        refine lv_iadd hx hb dX8_walker_34 ?_
        refine lv_topi (fun x_8 ex_8 => ?_)
        have e_8 : x_8.toInt = 48 + v.toInt := by rw [ex_8]; exact zi_add (by decide) (rfl) (by omega) (by omega)
        clear ex_8
        refine va_iald hx hb hK hP 1 0 rfl rfl (zi_in (by omega) (by omega)) dX8_walker_35 ?_
        refine lv_topi (fun x_9 ex_9 => ?_)
        have f_9 : 0 ≤ x_9.toInt ∧ x_9.toInt ≤ 7 := by rw [ex_9]; exact si_a hsi (s := 0) (k := v.toInt) (by omega) (by omega) (by omega)
        clear ex_9
        refine lv_goto (tgt := 62) hx hb dX8_walker_36 (by decide) ?_
        exact wr_i (v := x_9) hx hb hr hlocks hS () (by trivial) (hP.sub [0, 1] rfl) (hD.sub [0, 1] (by decide) rfl) dX8_walker_62
    · subst e_2
      have f_2 : ¬ ((0 : Int) ≤ k.toInt ∧ k.toInt ≤ (2 : Int)) := by
        have h8 := f_2
        try simp only [zl_of] at h8
        exact h8
      refine lv_if_ne (tgt := 23) hx hb dX8_walker_17 (by decide) (fun c9 => absurd (by decide) c9) (fun _ => ?_)
      refine lv_ldc (v := (-1000001)) hx hb hown (hts (.constant RX8 48 (-1000001)) (List.mem_of_getElem? (i := 2) rfl)) dX8_walker_20 ?_
      exact wr_i (v := (-1000001)) hx hb hr hlocks hS () (by trivial) (hP.sub [0, 1] rfl) (hD.sub [0, 1] (by decide) rfl) dX8_walker_22
  · subst e_1
    refine lv_if_eq (tgt := 20) hx hb dX8_walker_5 (by decide) (fun _ => ?_) (fun c9 => absurd (by decide) c9)
    refine lv_ldc (v := (-1000001)) hx hb hown (hts (.constant RX8 48 (-1000001)) (List.mem_of_getElem? (i := 2) rfl)) dX8_walker_20 ?_
    exact wr_i (v := (-1000001)) hx hb hr hlocks hS () (by trivial) (hP.sub [0, 1] rfl) (hD.sub [0, 1] (by decide) rfl) dX8_walker_22
set_option maxHeartbeats 4000000 in
set_option maxRecDepth 100000 in
theorem g_X8_frozen (l : Launch) (D : va_G) (cI cB cQ : ClassId) (sz : Nat) (h : Nat) (sl : Nat) (zs : Nat) (ln : Nat) (ir : Nat) (tk : Nat) (tb : Nat) (tr : Nat) (fz : Nat) (na : Int32) (su : Int32) (le : Int32) (fu : Int32) (ap : Int32) (pp : Int32) (tc : Int32) (nm : Int32) (k : Int32) (sf : Nat → Int32) (v0 : Int) (hsi : SI sf v0) (h_k : 0 ≤ k.toInt ∧ k.toInt ≤ 28) : mi l yX8_frozen wsX8_frozen ({ frames := 0, cells := 0, slots := 0, locals := 0 }) D cI cB cQ [.ref h, .int k] sz [(h, .inr (7, [.ref sl, .int na, .ref zs, .ref ln, .ref ir, .ref tk, .int su, .int le, .ref tb, .int fu, .int ap, .int pp, .ref tr, .int tc, .ref fz, .int nm])), (sl, .inl (cI, 1653, .inl sf))] (fun (r : Int32) (_u : Unit) => True) (fun _ => [(h, .inr (7, [.ref sl, .int na, .ref zs, .ref ln, .ref ir, .ref tk, .int su, .int le, .ref tb, .int fu, .int ap, .int pp, .ref tr, .int tc, .ref fz, .int nm])), (sl, .inl (cI, 1653, .inl sf))]) 0 0 := by
  refine wm_i (cc := cX8_frozen) (maxL := 4) (ret := (some .int)) (by decide) rfl (Nat.le_of_ble_eq_true rfl) ?_
  intro p e s m below meth c A ls hx hb hr hml hown hts hlocks hin hP hK hD hN hA hl hS
  have hown : s.vm.findClass RX8 = some m.cls := hown
  have hl : lv_has ls 4 [(0, .ref h), (1, .int k)] := hl
  change W p l e ({ frames := 0, cells := 0, slots := 0, locals := 0 }) s m ([.ref h, .int k] : List Value).toArray below meth c s.heap [] 0 0 (MQ below (va_Qi (fun (r : Int32) (_u : Unit) => True) (fun u t => wb D A ((fun _ => [(h, .inr (7, [.ref sl, .int na, .ref zs, .ref ln, .ref ir, .ref tk, .int su, .int le, .ref tb, .int fu, .int ap, .int pp, .ref tr, .int tc, .ref fz, .int nm])), (sl, .inl (cI, 1653, .inl sf))]) u) t) A) ([.ref h, .int k] : List Value).toArray s 0 0 A) (F0 m 0 ls [])
  refine lv_iconst (v := 0) hx hb dX8_frozen_0 (by decide) ?_
  refine lv_istore_n (lv' := [(2, .int 0), (0, .ref h), (1, .int k)]) hx hb dX8_frozen_1 rfl hl (by decide) rfl (fun ls hl => ?_)
  refine lv_iconst (v := 0) hx hb dX8_frozen_2 (by decide) ?_
  refine lv_istore_n (lv' := [(3, .int 0), (2, .int 0), (0, .ref h), (1, .int k)]) hx hb dX8_frozen_3 rfl hl (by decide) rfl (fun ls hl => ?_)
  have hL4 : ∀ (nf : Nat) (t3_c4 : Int32) (t2_c4 : Int32) (H : Heap) (locs : List Loc) (ls : Array Slot), (0 ≤ t3_c4.toInt ∧ t3_c4.toInt ≤ 8) → (8 - t3_c4.toInt).toNat < nf → va_P D kl [(h, .inr (7, [.ref sl, .int na, .ref zs, .ref ln, .ref ir, .ref tk, .int su, .int le, .ref tb, .int fu, .int ap, .int pp, .ref tr, .int tc, .ref fz, .int nm])), (sl, .inl (cI, 1653, .inl sf))] H → va_D A [(h, .inr (7, [.ref sl, .int na, .ref zs, .ref ln, .ref ir, .ref tk, .int su, .int le, .ref tb, .int fu, .int ap, .int pp, .ref tr, .int tc, .ref fz, .int nm])), (sl, .inl (cI, 1653, .inl sf))] → va_S A s.heap H locs → lv_has ls 4 [(3, .int t3_c4), (2, .int t2_c4), (0, .ref h), (1, .int k)] → W p l e ({ frames := 0, cells := 0, slots := 0, locals := 0 }) s m ([.ref h, .int k] : List Value).toArray below meth c H locs 0 0 (MQ below (va_Qi (fun (r : Int32) (_u : Unit) => True) (fun u t => wb D A ((fun _ => [(h, .inr (7, [.ref sl, .int na, .ref zs, .ref ln, .ref ir, .ref tk, .int su, .int le, .ref tb, .int fu, .int ap, .int pp, .ref tr, .int tc, .ref fz, .int nm])), (sl, .inl (cI, 1653, .inl sf))]) u) t) A) ([.ref h, .int k] : List Value).toArray s 0 0 A) (F0 m 4 ls []) := by
    intro nf
    induction nf with
    | zero =>
      intro t3_c4 t2_c4 H locs ls i_t3_c4 hm
      exact absurd hm (Nat.not_lt_zero _)
    | succ nf ih4 =>
      intro t3_c4 t2_c4 H locs ls i_t3_c4 hm4 hP hD hS hl
      refine lv_iload_n hx hb dX8_frozen_4 rfl (lv_at hl 0 rfl) ?_
      refine lv_bipush (v := 8) hx hb dX8_frozen_5 (by decide) ?_
      refine lv_icmp_ge (tgt := 43) hx hb dX8_frozen_7 (by decide) (fun c_1 => ?_) (fun c_1 => ?_)
      · have f_1 : 8 ≤ t3_c4.toInt := zi_le c_1
        refine lv_iload_n hx hb dX8_frozen_43 rfl (lv_at hl 1 rfl) ?_
        exact wr_i (v := t2_c4) hx hb hr hlocks hS () (by trivial) (hP.sub [0, 1] rfl) (hD.sub [0, 1] (by decide) rfl) dX8_frozen_44
      · have f_1 : ¬ 8 ≤ t3_c4.toInt := zi_nle c_1
        refine lv_iload_n hx hb dX8_frozen_10 rfl (lv_at hl 1 rfl) ?_
        refine lv_aload_n hx hb dX8_frozen_11 rfl (lv_at hl 2 rfl) ?_
        refine va_get (D := D) (ci := 7) (v := .ref sl) (C := RX8) (T := TX8) (N := 16) hx hb hts (fun _ h => List.mem_cons_of_mem _ (List.mem_append_right _ h)) hown hK hP 0 rfl rfl 0 (by decide) (hts (.fieldLink RX8 7 "WinterWalkModel" "slot" "[I") (List.mem_of_getElem? (i := 1) rfl)) (fun _ h9 => h9) rfl dX8_frozen_12 ?_
        refine lv_iload_n hx hb dX8_frozen_15 rfl (lv_at hl 3 rfl) ?_
        refine lv_bipush (v := 57) hx hb dX8_frozen_16 (by decide) ?_
        refine lv_imul hx hb dX8_frozen_18 ?_
        refine lv_topi (fun x_2 ex_2 => ?_)
        have e_2 : x_2.toInt = k.toInt * 57 := by rw [ex_2]; exact zi_mul (rfl) (by decide) (by omega) (by omega)
        clear ex_2
        refine lv_bipush (v := 32) hx hb dX8_frozen_19 (by decide) ?_
        refine lv_iadd hx hb dX8_frozen_21 ?_
        refine lv_topi (fun x_3 ex_3 => ?_)
        have e_3 : x_3.toInt = x_2.toInt + 32 := by rw [ex_3]; exact zi_add (rfl) (by decide) (by omega) (by omega)
        clear ex_3
        refine lv_iload_n hx hb dX8_frozen_22 rfl (lv_at hl 0 rfl) ?_
        refine lv_iadd hx hb dX8_frozen_23 ?_
        refine lv_topi (fun x_4 ex_4 => ?_)
        have e_4 : x_4.toInt = x_3.toInt + t3_c4.toInt := by rw [ex_4]; exact zi_add (rfl) (rfl) (by omega) (by omega)
        clear ex_4
        refine va_iald hx hb hK hP 1 0 rfl rfl (zi_in (by omega) (by omega)) dX8_frozen_24 ?_
        refine lv_topi (fun x_5 ex_5 => ?_)
        clear ex_5
        refine lv_if_le (tgt := 34) hx hb dX8_frozen_25 (by decide) (fun c_6 => ?_) (fun c_6 => ?_)
        · have f_6 : x_5.toInt ≤ 0 := zi_le c_6
          refine lv_iconst (v := 0) hx hb dX8_frozen_34 (by decide) ?_
          refine lv_ior hx hb dX8_frozen_35 ?_
          refine lv_topi (fun x_7 ex_7 => ?_)
          clear ex_7
          refine lv_istore_n (lv' := [(2, .int x_7), (3, .int t3_c4), (0, .ref h), (1, .int k)]) hx hb dX8_frozen_36 rfl hl (by decide) rfl (fun ls hl => ?_)
          obtain ⟨x_8, ex_8⟩ : ∃ y : Int32, y = t3_c4 + Int32.ofInt 1 := ⟨_, rfl⟩
          refine lv_iinc (v := x_8) (lv' := [(3, .int x_8), (2, .int x_7), (0, .ref h), (1, .int k)]) hx hb dX8_frozen_37 hl (k := 1) rfl ex_8.symm (by decide) rfl (fun ls hl => ?_)
          have ex_8 : x_8 = t3_c4 + 1 := ex_8
          have e_8 : x_8.toInt = t3_c4.toInt + 1 := by rw [ex_8]; exact zi_add (rfl) (by decide) (by omega) (by omega)
          clear ex_8
          refine lv_goto (tgt := 4) hx hb dX8_frozen_40 (by decide) ?_
          exact ih4 x_8 x_7 _ _ _ (show 0 ≤ x_8.toInt ∧ x_8.toInt ≤ 8 from by omega) (by omega) (hP.sub [0, 1] rfl) (hD.sub [0, 1] (by decide) rfl) hS (lv_sub hl [0, 1, 2, 3] rfl)
        · have f_6 : ¬ x_5.toInt ≤ 0 := zi_nle c_6
          refine lv_iconst (v := 1) hx hb dX8_frozen_28 (by decide) ?_
          refine lv_iload_n hx hb dX8_frozen_29 rfl (lv_at hl 0 rfl) ?_
          refine lv_ishl hx hb dX8_frozen_30 ?_
          refine lv_topi (fun x_9 ex_9 => ?_)
          have e_9 : 1 ≤ x_9.toInt ∧ x_9.toInt ≤ 256 := by rw [ex_9]; exact zi_sh (by omega)
          clear ex_9
          refine lv_goto (tgt := 35) hx hb dX8_frozen_31 (by decide) ?_
          refine lv_ior hx hb dX8_frozen_35 ?_
          refine lv_topi (fun x_10 ex_10 => ?_)
          clear ex_10
          refine lv_istore_n (lv' := [(2, .int x_10), (3, .int t3_c4), (0, .ref h), (1, .int k)]) hx hb dX8_frozen_36 rfl hl (by decide) rfl (fun ls hl => ?_)
          obtain ⟨x_11, ex_11⟩ : ∃ y : Int32, y = t3_c4 + Int32.ofInt 1 := ⟨_, rfl⟩
          refine lv_iinc (v := x_11) (lv' := [(3, .int x_11), (2, .int x_10), (0, .ref h), (1, .int k)]) hx hb dX8_frozen_37 hl (k := 1) rfl ex_11.symm (by decide) rfl (fun ls hl => ?_)
          have ex_11 : x_11 = t3_c4 + 1 := ex_11
          have e_11 : x_11.toInt = t3_c4.toInt + 1 := by rw [ex_11]; exact zi_add (rfl) (by decide) (by omega) (by omega)
          clear ex_11
          refine lv_goto (tgt := 4) hx hb dX8_frozen_40 (by decide) ?_
          exact ih4 x_11 x_10 _ _ _ (show 0 ≤ x_11.toInt ∧ x_11.toInt ≤ 8 from by omega) (by omega) (hP.sub [0, 1] rfl) (hD.sub [0, 1] (by decide) rfl) hS (lv_sub hl [0, 1, 2, 3] rfl)
  exact hL4 (((8 - (0 : Int32).toInt).toNat) + 1) 0 0 _ _ _ (show 0 ≤ 0 ∧ 0 ≤ 8 from by omega) (Nat.lt_succ_self _) (hP.sub [0, 1] rfl) (hD.sub [0, 1] (by decide) rfl) hS (lv_sub hl [0, 1, 2, 3] rfl)
set_option maxHeartbeats 4000000 in
set_option maxRecDepth 100000 in
theorem g_X8_meets (l : Launch) (D : va_G) (cI cB cQ : ClassId) (sz : Nat) (h : Nat) (sl : Nat) (zs : Nat) (ln : Nat) (ir : Nat) (tk : Nat) (tb : Nat) (tr : Nat) (fz : Nat) (na : Int32) (su : Int32) (le : Int32) (fu : Int32) (ap : Int32) (pp : Int32) (tc : Int32) (nm : Int32) (k : Int32) (sf : Nat → Int32) (v0 : Int) (hsi : SI sf v0) (h_k : 0 ≤ k.toInt ∧ k.toInt ≤ 28) : mi l yX8_meets wsX8_meets ({ frames := 0, cells := 0, slots := 0, locals := 0 }) D cI cB cQ [.ref h, .int k] sz [(h, .inr (7, [.ref sl, .int na, .ref zs, .ref ln, .ref ir, .ref tk, .int su, .int le, .ref tb, .int fu, .int ap, .int pp, .ref tr, .int tc, .ref fz, .int nm])), (sl, .inl (cI, 1653, .inl sf))] (fun (r : Int32) (_u : Unit) => True) (fun _ => [(h, .inr (7, [.ref sl, .int na, .ref zs, .ref ln, .ref ir, .ref tk, .int su, .int le, .ref tb, .int fu, .int ap, .int pp, .ref tr, .int tc, .ref fz, .int nm])), (sl, .inl (cI, 1653, .inl sf))]) 0 0 := by
  refine wm_i (cc := cX8_meets) (maxL := 6) (ret := (some .int)) (by decide) rfl (Nat.le_of_ble_eq_true rfl) ?_
  intro p e s m below meth c A ls hx hb hr hml hown hts hlocks hin hP hK hD hN hA hl hS
  have hown : s.vm.findClass RX8 = some m.cls := hown
  have hl : lv_has ls 6 [(0, .ref h), (1, .int k)] := hl
  change W p l e ({ frames := 0, cells := 0, slots := 0, locals := 0 }) s m ([.ref h, .int k] : List Value).toArray below meth c s.heap [] 0 0 (MQ below (va_Qi (fun (r : Int32) (_u : Unit) => True) (fun u t => wb D A ((fun _ => [(h, .inr (7, [.ref sl, .int na, .ref zs, .ref ln, .ref ir, .ref tk, .int su, .int le, .ref tb, .int fu, .int ap, .int pp, .ref tr, .int tc, .ref fz, .int nm])), (sl, .inl (cI, 1653, .inl sf))]) u) t) A) ([.ref h, .int k] : List Value).toArray s 0 0 A) (F0 m 0 ls [])
  refine lv_ldc (v := (-1000000)) hx hb hown (hts (.constant RX8 99 (-1000000)) (List.mem_of_getElem? (i := 1) rfl)) dX8_meets_0 ?_
  refine lv_istore_n (lv' := [(2, .int (-1000000)), (0, .ref h), (1, .int k)]) hx hb dX8_meets_2 rfl hl (by decide) rfl (fun ls hl => ?_)
  refine lv_iconst (v := 0) hx hb dX8_meets_3 (by decide) ?_
  refine lv_istore_n (lv' := [(3, .int 0), (2, .int (-1000000)), (0, .ref h), (1, .int k)]) hx hb dX8_meets_4 rfl hl (by decide) rfl (fun ls hl => ?_)
  have hL5 : ∀ (nf : Nat) (t3_c5 : Int32) (t2_c5 : Int32) (H : Heap) (locs : List Loc) (ls : Array Slot), (0 ≤ t3_c5.toInt ∧ t3_c5.toInt ≤ 3) → (3 - t3_c5.toInt).toNat < nf → va_P D kl [(h, .inr (7, [.ref sl, .int na, .ref zs, .ref ln, .ref ir, .ref tk, .int su, .int le, .ref tb, .int fu, .int ap, .int pp, .ref tr, .int tc, .ref fz, .int nm])), (sl, .inl (cI, 1653, .inl sf))] H → va_D A [(h, .inr (7, [.ref sl, .int na, .ref zs, .ref ln, .ref ir, .ref tk, .int su, .int le, .ref tb, .int fu, .int ap, .int pp, .ref tr, .int tc, .ref fz, .int nm])), (sl, .inl (cI, 1653, .inl sf))] → va_S A s.heap H locs → lv_has ls 6 [(3, .int t3_c5), (2, .int t2_c5), (0, .ref h), (1, .int k)] → W p l e ({ frames := 0, cells := 0, slots := 0, locals := 0 }) s m ([.ref h, .int k] : List Value).toArray below meth c H locs 0 0 (MQ below (va_Qi (fun (r : Int32) (_u : Unit) => True) (fun u t => wb D A ((fun _ => [(h, .inr (7, [.ref sl, .int na, .ref zs, .ref ln, .ref ir, .ref tk, .int su, .int le, .ref tb, .int fu, .int ap, .int pp, .ref tr, .int tc, .ref fz, .int nm])), (sl, .inl (cI, 1653, .inl sf))]) u) t) A) ([.ref h, .int k] : List Value).toArray s 0 0 A) (F0 m 5 ls []) := by
    intro nf
    induction nf with
    | zero =>
      intro t3_c5 t2_c5 H locs ls i_t3_c5 hm
      exact absurd hm (Nat.not_lt_zero _)
    | succ nf ih5 =>
      intro t3_c5 t2_c5 H locs ls i_t3_c5 hm5 hP hD hS hl
      refine lv_iload_n hx hb dX8_meets_5 rfl (lv_at hl 0 rfl) ?_
      refine lv_aload_n hx hb dX8_meets_6 rfl (lv_at hl 2 rfl) ?_
      refine va_get (D := D) (ci := 7) (v := .ref sl) (C := RX8) (T := TX8) (N := 16) hx hb hts (fun _ h => List.mem_cons_of_mem _ (List.mem_append_right _ h)) hown hK hP 0 rfl rfl 0 (by decide) (hts (.fieldLink RX8 7 "WinterWalkModel" "slot" "[I") (List.mem_of_getElem? (i := 2) rfl)) (fun _ h9 => h9) rfl dX8_meets_7 ?_
      refine lv_iload_n hx hb dX8_meets_10 rfl (lv_at hl 3 rfl) ?_
      refine lv_bipush (v := 57) hx hb dX8_meets_11 (by decide) ?_
      refine lv_imul hx hb dX8_meets_13 ?_
      refine lv_topi (fun x_1 ex_1 => ?_)
      have e_1 : x_1.toInt = k.toInt * 57 := by rw [ex_1]; exact zi_mul (rfl) (by decide) (by omega) (by omega)
      clear ex_1
      refine lv_iconst (v := 2) hx hb dX8_meets_14 (by decide) ?_
      refine lv_iadd hx hb dX8_meets_15 ?_
      refine lv_topi (fun x_2 ex_2 => ?_)
      have e_2 : x_2.toInt = x_1.toInt + 2 := by rw [ex_2]; exact zi_add (rfl) (by decide) (by omega) (by omega)
      clear ex_2
      refine va_iald hx hb hK hP 1 0 rfl rfl (zi_in (by omega) (by omega)) dX8_meets_16 ?_
      refine lv_topi (fun x_3 ex_3 => ?_)
      have f_3 : 0 ≤ x_3.toInt ∧ x_3.toInt ≤ 3 := by rw [ex_3]; exact si_w hsi (s := k.toInt) (by omega) (by omega)
      clear ex_3
      refine lv_icmp_ge (tgt := 94) hx hb dX8_meets_17 (by decide) (fun c_4 => ?_) (fun c_4 => ?_)
      · have f_4 : x_3.toInt ≤ t3_c5.toInt := zi_le c_4
        refine lv_iload_n hx hb dX8_meets_94 rfl (lv_at hl 1 rfl) ?_
        exact wr_i (v := t2_c5) hx hb hr hlocks hS () (by trivial) (hP.sub [0, 1] rfl) (hD.sub [0, 1] (by decide) rfl) dX8_meets_95
      · have f_4 : ¬ x_3.toInt ≤ t3_c5.toInt := zi_nle c_4
        refine lv_iconst (v := 0) hx hb dX8_meets_20 (by decide) ?_
        refine lv_istore (lv' := [(4, .int 0), (3, .int t3_c5), (2, .int t2_c5), (0, .ref h), (1, .int k)]) hx hb dX8_meets_21 hl (by decide) rfl (fun ls hl => ?_)
        have hL23 : ∀ (nf : Nat) (t4_c23 : Int32) (t2_c23 : Int32) (H : Heap) (locs : List Loc) (ls : Array Slot), (0 ≤ t4_c23.toInt ∧ t4_c23.toInt ≤ 3) → (3 - t4_c23.toInt).toNat < nf → va_P D kl [(h, .inr (7, [.ref sl, .int na, .ref zs, .ref ln, .ref ir, .ref tk, .int su, .int le, .ref tb, .int fu, .int ap, .int pp, .ref tr, .int tc, .ref fz, .int nm])), (sl, .inl (cI, 1653, .inl sf))] H → va_D A [(h, .inr (7, [.ref sl, .int na, .ref zs, .ref ln, .ref ir, .ref tk, .int su, .int le, .ref tb, .int fu, .int ap, .int pp, .ref tr, .int tc, .ref fz, .int nm])), (sl, .inl (cI, 1653, .inl sf))] → va_S A s.heap H locs → lv_has ls 6 [(4, .int t4_c23), (3, .int t3_c5), (2, .int t2_c23), (0, .ref h), (1, .int k)] → W p l e ({ frames := 0, cells := 0, slots := 0, locals := 0 }) s m ([.ref h, .int k] : List Value).toArray below meth c H locs 0 0 (MQ below (va_Qi (fun (r : Int32) (_u : Unit) => True) (fun u t => wb D A ((fun _ => [(h, .inr (7, [.ref sl, .int na, .ref zs, .ref ln, .ref ir, .ref tk, .int su, .int le, .ref tb, .int fu, .int ap, .int pp, .ref tr, .int tc, .ref fz, .int nm])), (sl, .inl (cI, 1653, .inl sf))]) u) t) A) ([.ref h, .int k] : List Value).toArray s 0 0 A) (F0 m 23 ls []) := by
          intro nf
          induction nf with
          | zero =>
            intro t4_c23 t2_c23 H locs ls i_t4_c23 hm
            exact absurd hm (Nat.not_lt_zero _)
          | succ nf ih23 =>
            intro t4_c23 t2_c23 H locs ls i_t4_c23 hm23 hP hD hS hl
            refine lv_iload hx hb dX8_meets_23 (lv_at hl 0 rfl) ?_
            refine lv_iload_n hx hb dX8_meets_25 rfl (lv_at hl 1 rfl) ?_
            refine lv_icmp_ge (tgt := 88) hx hb dX8_meets_26 (by decide) (fun c_5 => ?_) (fun c_5 => ?_)
            · have f_5 : t3_c5.toInt ≤ t4_c23.toInt := zi_le c_5
              obtain ⟨x_6, ex_6⟩ : ∃ y : Int32, y = t3_c5 + Int32.ofInt 1 := ⟨_, rfl⟩
              refine lv_iinc (v := x_6) (lv' := [(3, .int x_6), (4, .int t4_c23), (2, .int t2_c23), (0, .ref h), (1, .int k)]) hx hb dX8_meets_88 hl (k := 1) rfl ex_6.symm (by decide) rfl (fun ls hl => ?_)
              have ex_6 : x_6 = t3_c5 + 1 := ex_6
              have e_6 : x_6.toInt = t3_c5.toInt + 1 := by rw [ex_6]; exact zi_add (rfl) (by decide) (by omega) (by omega)
              clear ex_6
              refine lv_goto (tgt := 5) hx hb dX8_meets_91 (by decide) ?_
              exact ih5 x_6 t2_c23 _ _ _ (show 0 ≤ x_6.toInt ∧ x_6.toInt ≤ 3 from by omega) (by omega) (hP.sub [0, 1] rfl) (hD.sub [0, 1] (by decide) rfl) hS (lv_sub hl [0, 2, 3, 4] rfl)
            · have f_5 : ¬ t3_c5.toInt ≤ t4_c23.toInt := zi_nle c_5
              refine lv_aload_n hx hb dX8_meets_29 rfl (lv_at hl 3 rfl) ?_
              refine va_get (D := D) (ci := 7) (v := .ref sl) (C := RX8) (T := TX8) (N := 16) hx hb hts (fun _ h => List.mem_cons_of_mem _ (List.mem_append_right _ h)) hown hK hP 0 rfl rfl 0 (by decide) (hts (.fieldLink RX8 7 "WinterWalkModel" "slot" "[I") (List.mem_of_getElem? (i := 2) rfl)) (fun _ h9 => h9) rfl dX8_meets_30 ?_
              refine lv_iload_n hx hb dX8_meets_33 rfl (lv_at hl 4 rfl) ?_
              refine lv_bipush (v := 57) hx hb dX8_meets_34 (by decide) ?_
              refine lv_imul hx hb dX8_meets_36 ?_
              refine lv_topi (fun x_7 ex_7 => ?_)
              have e_7 : x_7.toInt = k.toInt * 57 := by rw [ex_7]; exact zi_mul (rfl) (by decide) (by omega) (by omega)
              clear ex_7
              refine lv_bipush (v := 48) hx hb dX8_meets_37 (by decide) ?_
              refine lv_iadd hx hb dX8_meets_39 ?_
              refine lv_topi (fun x_8 ex_8 => ?_)
              have e_8 : x_8.toInt = x_7.toInt + 48 := by rw [ex_8]; exact zi_add (rfl) (by decide) (by omega) (by omega)
              clear ex_8
              refine lv_iload_n hx hb dX8_meets_40 rfl (lv_at hl 1 rfl) ?_
              refine lv_iadd hx hb dX8_meets_41 ?_
              refine lv_topi (fun x_9 ex_9 => ?_)
              have e_9 : x_9.toInt = x_8.toInt + t3_c5.toInt := by rw [ex_9]; exact zi_add (rfl) (rfl) (by omega) (by omega)
              clear ex_9
              refine va_iald hx hb hK hP 1 0 rfl rfl (zi_in (by omega) (by omega)) dX8_meets_42 ?_
              refine lv_topi (fun x_10 ex_10 => ?_)
              have f_10 : 0 ≤ x_10.toInt ∧ x_10.toInt ≤ 7 := by rw [ex_10]; exact si_a hsi (s := k.toInt) (k := t3_c5.toInt) (by omega) (by omega) (by omega)
              clear ex_10
              refine lv_istore (lv' := [(5, .int x_10), (4, .int t4_c23), (3, .int t3_c5), (2, .int t2_c23), (0, .ref h), (1, .int k)]) hx hb dX8_meets_43 hl (by decide) rfl (fun ls hl => ?_)
              refine lv_iload hx hb dX8_meets_45 (lv_at hl 0 rfl) ?_
              refine lv_aload_n hx hb dX8_meets_47 rfl (lv_at hl 4 rfl) ?_
              refine va_get (D := D) (ci := 7) (v := .ref sl) (C := RX8) (T := TX8) (N := 16) hx hb hts (fun _ h => List.mem_cons_of_mem _ (List.mem_append_right _ h)) hown hK hP 0 rfl rfl 0 (by decide) (hts (.fieldLink RX8 7 "WinterWalkModel" "slot" "[I") (List.mem_of_getElem? (i := 2) rfl)) (fun _ h9 => h9) rfl dX8_meets_48 ?_
              refine lv_iload_n hx hb dX8_meets_51 rfl (lv_at hl 5 rfl) ?_
              refine lv_bipush (v := 57) hx hb dX8_meets_52 (by decide) ?_
              refine lv_imul hx hb dX8_meets_54 ?_
              refine lv_topi (fun x_11 ex_11 => ?_)
              have e_11 : x_11.toInt = k.toInt * 57 := by rw [ex_11]; exact zi_mul (rfl) (by decide) (by omega) (by omega)
              clear ex_11
              refine lv_bipush (v := 48) hx hb dX8_meets_55 (by decide) ?_
              refine lv_iadd hx hb dX8_meets_57 ?_
              refine lv_topi (fun x_12 ex_12 => ?_)
              have e_12 : x_12.toInt = x_11.toInt + 48 := by rw [ex_12]; exact zi_add (rfl) (by decide) (by omega) (by omega)
              clear ex_12
              refine lv_iload hx hb dX8_meets_58 (lv_at hl 1 rfl) ?_
              refine lv_iadd hx hb dX8_meets_60 ?_
              refine lv_topi (fun x_13 ex_13 => ?_)
              have e_13 : x_13.toInt = x_12.toInt + t4_c23.toInt := by rw [ex_13]; exact zi_add (rfl) (rfl) (by omega) (by omega)
              clear ex_13
              refine va_iald hx hb hK hP 1 0 rfl rfl (zi_in (by omega) (by omega)) dX8_meets_61 ?_
              refine lv_topi (fun x_14 ex_14 => ?_)
              have f_14 : 0 ≤ x_14.toInt ∧ x_14.toInt ≤ 7 := by rw [ex_14]; exact si_a hsi (s := k.toInt) (k := t4_c23.toInt) (by omega) (by omega) (by omega)
              clear ex_14
              refine lv_icmp_ne (tgt := 80) hx hb dX8_meets_62 (by decide) (fun c_15 => ?_) (fun c_15 => ?_)
              · have f_15 : ¬ x_10.toInt = x_14.toInt := zi_ne c_15
                refine lv_iload_n hx hb dX8_meets_80 rfl (lv_at hl 3 rfl) ?_
                refine lv_istore_n (lv' := [(2, .int t2_c23), (5, .int x_10), (4, .int t4_c23), (3, .int t3_c5), (0, .ref h), (1, .int k)]) hx hb dX8_meets_81 rfl hl (by decide) rfl (fun ls hl => ?_)
                obtain ⟨x_16, ex_16⟩ : ∃ y : Int32, y = t4_c23 + Int32.ofInt 1 := ⟨_, rfl⟩
                refine lv_iinc (v := x_16) (lv' := [(4, .int x_16), (2, .int t2_c23), (5, .int x_10), (3, .int t3_c5), (0, .ref h), (1, .int k)]) hx hb dX8_meets_82 hl (k := 2) rfl ex_16.symm (by decide) rfl (fun ls hl => ?_)
                have ex_16 : x_16 = t4_c23 + 1 := ex_16
                have e_16 : x_16.toInt = t4_c23.toInt + 1 := by rw [ex_16]; exact zi_add (rfl) (by decide) (by omega) (by omega)
                clear ex_16
                refine lv_goto (tgt := 23) hx hb dX8_meets_85 (by decide) ?_
                exact ih23 x_16 t2_c23 _ _ _ (show 0 ≤ x_16.toInt ∧ x_16.toInt ≤ 3 from by omega) (by omega) (hP.sub [0, 1] rfl) (hD.sub [0, 1] (by decide) rfl) hS (lv_sub hl [0, 3, 1, 4, 5] rfl)
              · have f_15 : x_10.toInt = x_14.toInt := zi_eq c_15
                refine lv_iload_n hx hb dX8_meets_65 rfl (lv_at hl 3 rfl) ?_
                refine lv_if_lt (tgt := 75) hx hb dX8_meets_66 (by decide) (fun c_17 => ?_) (fun c_17 => ?_)
                · have f_17 : t2_c23.toInt < 0 := zi_lt c_17
                  refine lv_iload hx hb dX8_meets_75 (lv_at hl 0 rfl) ?_
                  refine lv_goto (tgt := 81) hx hb dX8_meets_77 (by decide) ?_
                  refine lv_istore_n (lv' := [(2, .int x_10), (5, .int x_10), (4, .int t4_c23), (3, .int t3_c5), (0, .ref h), (1, .int k)]) hx hb dX8_meets_81 rfl hl (by decide) rfl (fun ls hl => ?_)
                  obtain ⟨x_18, ex_18⟩ : ∃ y : Int32, y = t4_c23 + Int32.ofInt 1 := ⟨_, rfl⟩
                  refine lv_iinc (v := x_18) (lv' := [(4, .int x_18), (2, .int x_10), (5, .int x_10), (3, .int t3_c5), (0, .ref h), (1, .int k)]) hx hb dX8_meets_82 hl (k := 2) rfl ex_18.symm (by decide) rfl (fun ls hl => ?_)
                  have ex_18 : x_18 = t4_c23 + 1 := ex_18
                  have e_18 : x_18.toInt = t4_c23.toInt + 1 := by rw [ex_18]; exact zi_add (rfl) (by decide) (by omega) (by omega)
                  clear ex_18
                  refine lv_goto (tgt := 23) hx hb dX8_meets_85 (by decide) ?_
                  exact ih23 x_18 x_10 _ _ _ (show 0 ≤ x_18.toInt ∧ x_18.toInt ≤ 3 from by omega) (by omega) (hP.sub [0, 1] rfl) (hD.sub [0, 1] (by decide) rfl) hS (lv_sub hl [0, 3, 1, 4, 5] rfl)
                · have f_17 : ¬ t2_c23.toInt < 0 := zi_nlt c_17
                  refine lv_iload hx hb dX8_meets_69 (lv_at hl 0 rfl) ?_
                  refine lv_iload_n hx hb dX8_meets_71 rfl (lv_at hl 3 rfl) ?_
                  refine lv_icmp_ge (tgt := 80) hx hb dX8_meets_72 (by decide) (fun c_19 => ?_) (fun c_19 => ?_)
                  · have f_19 : t2_c23.toInt ≤ x_10.toInt := zi_le c_19
                    refine lv_iload_n hx hb dX8_meets_80 rfl (lv_at hl 3 rfl) ?_
                    refine lv_istore_n (lv' := [(2, .int t2_c23), (5, .int x_10), (4, .int t4_c23), (3, .int t3_c5), (0, .ref h), (1, .int k)]) hx hb dX8_meets_81 rfl hl (by decide) rfl (fun ls hl => ?_)
                    obtain ⟨x_20, ex_20⟩ : ∃ y : Int32, y = t4_c23 + Int32.ofInt 1 := ⟨_, rfl⟩
                    refine lv_iinc (v := x_20) (lv' := [(4, .int x_20), (2, .int t2_c23), (5, .int x_10), (3, .int t3_c5), (0, .ref h), (1, .int k)]) hx hb dX8_meets_82 hl (k := 2) rfl ex_20.symm (by decide) rfl (fun ls hl => ?_)
                    have ex_20 : x_20 = t4_c23 + 1 := ex_20
                    have e_20 : x_20.toInt = t4_c23.toInt + 1 := by rw [ex_20]; exact zi_add (rfl) (by decide) (by omega) (by omega)
                    clear ex_20
                    refine lv_goto (tgt := 23) hx hb dX8_meets_85 (by decide) ?_
                    exact ih23 x_20 t2_c23 _ _ _ (show 0 ≤ x_20.toInt ∧ x_20.toInt ≤ 3 from by omega) (by omega) (hP.sub [0, 1] rfl) (hD.sub [0, 1] (by decide) rfl) hS (lv_sub hl [0, 3, 1, 4, 5] rfl)
                  · have f_19 : ¬ t2_c23.toInt ≤ x_10.toInt := zi_nle c_19
                    refine lv_iload hx hb dX8_meets_75 (lv_at hl 0 rfl) ?_
                    refine lv_goto (tgt := 81) hx hb dX8_meets_77 (by decide) ?_
                    refine lv_istore_n (lv' := [(2, .int x_10), (5, .int x_10), (4, .int t4_c23), (3, .int t3_c5), (0, .ref h), (1, .int k)]) hx hb dX8_meets_81 rfl hl (by decide) rfl (fun ls hl => ?_)
                    obtain ⟨x_21, ex_21⟩ : ∃ y : Int32, y = t4_c23 + Int32.ofInt 1 := ⟨_, rfl⟩
                    refine lv_iinc (v := x_21) (lv' := [(4, .int x_21), (2, .int x_10), (5, .int x_10), (3, .int t3_c5), (0, .ref h), (1, .int k)]) hx hb dX8_meets_82 hl (k := 2) rfl ex_21.symm (by decide) rfl (fun ls hl => ?_)
                    have ex_21 : x_21 = t4_c23 + 1 := ex_21
                    have e_21 : x_21.toInt = t4_c23.toInt + 1 := by rw [ex_21]; exact zi_add (rfl) (by decide) (by omega) (by omega)
                    clear ex_21
                    refine lv_goto (tgt := 23) hx hb dX8_meets_85 (by decide) ?_
                    exact ih23 x_21 x_10 _ _ _ (show 0 ≤ x_21.toInt ∧ x_21.toInt ≤ 3 from by omega) (by omega) (hP.sub [0, 1] rfl) (hD.sub [0, 1] (by decide) rfl) hS (lv_sub hl [0, 3, 1, 4, 5] rfl)
        exact hL23 (((3 - (0 : Int32).toInt).toNat) + 1) 0 t2_c5 _ _ _ (show 0 ≤ 0 ∧ 0 ≤ 3 from by omega) (Nat.lt_succ_self _) (hP.sub [0, 1] rfl) (hD.sub [0, 1] (by decide) rfl) hS (lv_sub hl [0, 1, 2, 3, 4] rfl)
  exact hL5 (((3 - (0 : Int32).toInt).toNat) + 1) 0 (-1000000) _ _ _ (show 0 ≤ 0 ∧ 0 ≤ 3 from by omega) (Nat.lt_succ_self _) (hP.sub [0, 1] rfl) (hD.sub [0, 1] (by decide) rfl) hS (lv_sub hl [0, 1, 2, 3] rfl)
set_option maxHeartbeats 4000000 in
set_option maxRecDepth 100000 in
theorem g_X8_begins (l : Launch) (D : va_G) (cI cB cQ : ClassId) (sz : Nat) (h : Nat) (sl : Nat) (zs : Nat) (ln : Nat) (ir : Nat) (tk : Nat) (tb : Nat) (tr : Nat) (fz : Nat) (na : Int32) (su : Int32) (le : Int32) (fu : Int32) (ap : Int32) (pp : Int32) (tc : Int32) (nm : Int32) (k : Int32) (trf : Nat → Int32) (h_na : 0 ≤ na.toInt ∧ na.toInt ≤ 24) (h_le : 0 ≤ le.toInt ∧ le.toInt ≤ 120) (h_ap : 0 ≤ ap.toInt ∧ ap.toInt ≤ 120) (h_tc : 0 ≤ tc.toInt ∧ tc.toInt ≤ 16) : mv l yX8_begins wsX8_begins ({ frames := 0, cells := 0, slots := 0, locals := 0 }) D cI cB cQ [.ref h, .int k] sz [(h, .inr (7, [.ref sl, .int na, .ref zs, .ref ln, .ref ir, .ref tk, .int su, .int le, .ref tb, .int fu, .int ap, .int pp, .ref tr, .int tc, .ref fz, .int nm])), (tr, .inl (cI, 16, .inl trf))] (fun (u : Int32 × (Nat → Int32)) => (0 ≤ u.1.toInt ∧ u.1.toInt ≤ 16)) (fun u => [(h, .inr (7, [.ref sl, .int na, .ref zs, .ref ln, .ref ir, .ref tk, .int su, .int le, .ref tb, .int fu, .int ap, .int pp, .ref tr, .int u.1, .ref fz, .int nm])), (tr, .inl (cI, 16, .inl u.2))]) 0 0 := by
  refine wm_v (cc := cX8_begins) (maxL := 2) (ret := none) (by decide) rfl (Nat.le_of_ble_eq_true rfl) ?_
  intro p e s m below meth c A ls hx hb hr hml hown hts hlocks hin hP hK hD hN hA hl hS
  have hown : s.vm.findClass RX8 = some m.cls := hown
  have hl : lv_has ls 2 [(0, .ref h), (1, .int k)] := hl
  change W p l e ({ frames := 0, cells := 0, slots := 0, locals := 0 }) s m ([.ref h, .int k] : List Value).toArray below meth c s.heap [] 0 0 (MQ below (va_Qv (fun (u : Int32 × (Nat → Int32)) => (0 ≤ u.1.toInt ∧ u.1.toInt ≤ 16)) (fun u t => wb D A ((fun u => [(h, .inr (7, [.ref sl, .int na, .ref zs, .ref ln, .ref ir, .ref tk, .int su, .int le, .ref tb, .int fu, .int ap, .int pp, .ref tr, .int u.1, .ref fz, .int nm])), (tr, .inl (cI, 16, .inl u.2))]) u) t) A) ([.ref h, .int k] : List Value).toArray s 0 0 A) (F0 m 0 ls [])
  refine lv_aload_n hx hb dX8_begins_0 rfl (lv_at hl 0 rfl) ?_
  refine va_get (D := D) (ci := 7) (v := .int tc) (C := RX8) (T := TX8) (N := 16) hx hb hts (fun _ h => List.mem_cons_of_mem _ (List.mem_append_right _ h)) hown hK hP 0 rfl rfl 13 (by decide) (hts (.fieldLink RX8 208 "WinterWalkModel" "traced" "I") (List.mem_of_getElem? (i := 1) rfl)) (fun _ h9 => h9) rfl dX8_begins_1 ?_
  refine lv_bipush (v := 16) hx hb dX8_begins_4 (by decide) ?_
  refine lv_icmp_ge (tgt := 29) hx hb dX8_begins_6 (by decide) (fun c_1 => ?_) (fun c_1 => ?_)
  · have f_1 : 16 ≤ tc.toInt := zi_le c_1
    exact wr_v hx hb hr hlocks hS (tc, trf) (by exact show 0 ≤ (tc : Int32).toInt ∧ (tc : Int32).toInt ≤ 16 from by omega) (hP.sub [0, 1] rfl) (hD.sub [0, 1] (by decide) rfl) dX8_begins_29
  · have f_1 : ¬ 16 ≤ tc.toInt := zi_nle c_1
    refine lv_aload_n hx hb dX8_begins_9 rfl (lv_at hl 0 rfl) ?_
    refine va_get (D := D) (ci := 7) (v := .ref tr) (C := RX8) (T := TX8) (N := 16) hx hb hts (fun _ h => List.mem_cons_of_mem _ (List.mem_append_right _ h)) hown hK hP 0 rfl rfl 12 (by decide) (hts (.fieldLink RX8 29 "WinterWalkModel" "trace" "[I") (List.mem_of_getElem? (i := 2) rfl)) (fun _ h9 => h9) rfl dX8_begins_10 ?_
    refine lv_aload_n hx hb dX8_begins_13 rfl (lv_at hl 0 rfl) ?_
    refine va_get (D := D) (ci := 7) (v := .int tc) (C := RX8) (T := TX8) (N := 16) hx hb hts (fun _ h => List.mem_cons_of_mem _ (List.mem_append_right _ h)) hown hK hP 0 rfl rfl 13 (by decide) (hts (.fieldLink RX8 208 "WinterWalkModel" "traced" "I") (List.mem_of_getElem? (i := 1) rfl)) (fun _ h9 => h9) rfl dX8_begins_14 ?_
    refine lv_iload_n hx hb dX8_begins_17 rfl (lv_at hl 1 rfl) ?_
    refine va_iast hx hb hK hP hD hS 1 0 rfl rfl (zi_in (by omega) (by omega)) dX8_begins_18 (fun H locs hP hD hS => ?_)
    have hP : va_P D kl [(h, .inr (7, [.ref sl, .int na, .ref zs, .ref ln, .ref ir, .ref tk, .int su, .int le, .ref tb, .int fu, .int ap, .int pp, .ref tr, .int tc, .ref fz, .int nm])), (tr, .inl (cI, 16, .inl (upd trf (tc : Int32).toNatClampNeg k)))] H := hP
    have hD : va_D A [(h, .inr (7, [.ref sl, .int na, .ref zs, .ref ln, .ref ir, .ref tk, .int su, .int le, .ref tb, .int fu, .int ap, .int pp, .ref tr, .int tc, .ref fz, .int nm])), (tr, .inl (cI, 16, .inl (upd trf (tc : Int32).toNatClampNeg k)))] := hD
    refine lv_aload_n hx hb dX8_begins_19 rfl (lv_at hl 0 rfl) ?_
    refine lv_dup hx hb dX8_begins_20 rfl ?_
    refine va_get (D := D) (ci := 7) (v := .int tc) (C := RX8) (T := TX8) (N := 16) hx hb hts (fun _ h => List.mem_cons_of_mem _ (List.mem_append_right _ h)) hown hK hP 0 rfl rfl 13 (by decide) (hts (.fieldLink RX8 208 "WinterWalkModel" "traced" "I") (List.mem_of_getElem? (i := 1) rfl)) (fun _ h9 => h9) rfl dX8_begins_21 ?_
    refine lv_iconst (v := 1) hx hb dX8_begins_24 (by decide) ?_
    refine lv_iadd hx hb dX8_begins_25 ?_
    refine lv_topi (fun x_2 ex_2 => ?_)
    have e_2 : x_2.toInt = tc.toInt + 1 := by rw [ex_2]; exact zi_add (rfl) (by decide) (by omega) (by omega)
    clear ex_2
    refine va_put (D := D) (ci := 7) (v := .int x_2) (ty := .int) (C := RX8) (T := TX8) (N := 16) hx hb hts (fun _ h => List.mem_cons_of_mem _ (List.mem_append_right _ h)) tyX8 tyX8_ok nmX8 hown hK hP hD hS 0 rfl rfl 13 (by decide) (hts (.fieldLink RX8 208 "WinterWalkModel" "traced" "I") (List.mem_of_getElem? (i := 1) rfl)) (fun _ h9 => h9) rfl (by decide +kernel) rfl rfl (Nat.le_of_ble_eq_true rfl) dX8_begins_26 (fun H locs hP hD hS => ?_)
    have hP : va_P D kl [(h, .inr (7, [.ref sl, .int na, .ref zs, .ref ln, .ref ir, .ref tk, .int su, .int le, .ref tb, .int fu, .int ap, .int pp, .ref tr, .int x_2, .ref fz, .int nm])), (tr, .inl (cI, 16, .inl (upd trf (tc : Int32).toNatClampNeg k)))] H := hP
    have hD : va_D A [(h, .inr (7, [.ref sl, .int na, .ref zs, .ref ln, .ref ir, .ref tk, .int su, .int le, .ref tb, .int fu, .int ap, .int pp, .ref tr, .int x_2, .ref fz, .int nm])), (tr, .inl (cI, 16, .inl (upd trf (tc : Int32).toNatClampNeg k)))] := hD
    exact wr_v hx hb hr hlocks hS (x_2, (upd trf (tc : Int32).toNatClampNeg k)) (by exact show 0 ≤ (x_2 : Int32).toInt ∧ (x_2 : Int32).toInt ≤ 16 from by omega) (hP.sub [0, 1] rfl) (hD.sub [0, 1] (by decide) rfl) dX8_begins_29
set_option maxHeartbeats 4000000 in
set_option maxRecDepth 100000 in
theorem g_X8_size10 (l : Launch) (D : va_G) (cI cB cQ : ClassId) (sz : Nat) (h : Nat) (sl : Nat) (zs : Nat) (ln : Nat) (ir : Nat) (tk : Nat) (tb : Nat) (tr : Nat) (fz : Nat) (na : Int32) (su : Int32) (le : Int32) (fu : Int32) (ap : Int32) (pp : Int32) (tc : Int32) (nm : Int32) (v : Int32) (sf : Nat → Int32) (trf : Nat → Int32) (v0 : Int) (hsi : SI sf v0) (h_na : 0 ≤ na.toInt ∧ na.toInt ≤ 24) (h_le : 0 ≤ le.toInt ∧ le.toInt ≤ 120) (h_ap : 0 ≤ ap.toInt ∧ ap.toInt ≤ 120) (h_tc : 0 ≤ tc.toInt ∧ tc.toInt ≤ 16) (h_v : 0 ≤ v.toInt ∧ v.toInt ≤ 2) : mi l yX8_size10 wsX8_size10 ({ frames := 1, cells := 0, slots := 0, locals := 21 }) D cI cB cQ [.ref h, .int v] sz [(h, .inr (7, [.ref sl, .int na, .ref zs, .ref ln, .ref ir, .ref tk, .int su, .int le, .ref tb, .int fu, .int ap, .int pp, .ref tr, .int tc, .ref fz, .int nm])), (sl, .inl (cI, 1653, .inl sf)), (tr, .inl (cI, 16, .inl trf))] (fun (r : Int32) (u : Int32 × (Nat → Int32)) => (0 ≤ u.1.toInt ∧ u.1.toInt ≤ 16)) (fun u => [(h, .inr (7, [.ref sl, .int na, .ref zs, .ref ln, .ref ir, .ref tk, .int su, .int le, .ref tb, .int fu, .int ap, .int pp, .ref tr, .int u.1, .ref fz, .int nm])), (sl, .inl (cI, 1653, .inl sf)), (tr, .inl (cI, 16, .inl u.2))]) 0 0 := by
  refine wm_i (cc := cX8_size10) (maxL := 2) (ret := (some .int)) (by decide) rfl (Nat.le_of_ble_eq_true rfl) ?_
  intro p e s m below meth c A ls hx hb hr hml hown hts hlocks hin hP hK hD hN hA hl hS
  have hown : s.vm.findClass RX8 = some m.cls := hown
  have hl : lv_has ls 2 [(0, .ref h), (1, .int v)] := hl
  change W p l e ({ frames := 1, cells := 0, slots := 0, locals := 21 }) s m ([.ref h, .int v] : List Value).toArray below meth c s.heap [] 0 0 (MQ below (va_Qi (fun (r : Int32) (u : Int32 × (Nat → Int32)) => (0 ≤ u.1.toInt ∧ u.1.toInt ≤ 16)) (fun u t => wb D A ((fun u => [(h, .inr (7, [.ref sl, .int na, .ref zs, .ref ln, .ref ir, .ref tk, .int su, .int le, .ref tb, .int fu, .int ap, .int pp, .ref tr, .int u.1, .ref fz, .int nm])), (sl, .inl (cI, 1653, .inl sf)), (tr, .inl (cI, 16, .inl u.2))]) u) t) A) ([.ref h, .int v] : List Value).toArray s 0 0 A) (F0 m 0 ls [])
  refine lv_aload_n hx hb dX8_size10_0 rfl (lv_at hl 0 rfl) ?_
  refine lv_bipush (v := 10) hx hb dX8_size10_1 (by decide) ?_
  have k_1 := (g_X8_begins l D cI cB cQ s.heap.size h sl zs ln ir tk tb tr fz na su le fu ap pp tc nm 10 trf (by omega) (by omega) (by omega) (by omega))
  refine wc_v (WC := [(h, .inr (7, [.ref sl, .int na, .ref zs, .ref ln, .ref ir, .ref tk, .int su, .int le, .ref tb, .int fu, .int ap, .int pp, .ref tr, .int tc, .ref fz, .int nm])), (tr, .inl (cI, 16, .inl trf))]) (WR := [(sl, .inl (cI, 1653, .inl sf))]) (va_runV (As := [.int 10]) (rest := []) ⟨hx, hb, hml, hown, hts⟩ k_1 (cwV 1 hts gX8_size10_X8_begins rfl rfl rfl (by decide +kernel) ⟨Nat.le_of_ble_eq_true rfl, Nat.le_of_ble_eq_true rfl⟩) (wp_V hP hK hD hN [0, 2] (by decide) rfl (ci := 7) rfl rfl) rfl rfl hl.1 rfl (lv_room (Nat.le_of_ble_eq_true rfl)) dX8_size10_3 ⟨Nat.le_of_ble_eq_true rfl, Nat.le_of_ble_eq_true rfl⟩) hP hD hS hA [0, 2] [1] rfl rfl (by decide) (by decide) (pe2 (fun v1_0 v1_1 H locs hw_1 hP hD hS => ?_))
  clear k_1
  have hP : va_P D kl [(sl, .inl (cI, 1653, .inl sf)), (h, .inr (7, [.ref sl, .int na, .ref zs, .ref ln, .ref ir, .ref tk, .int su, .int le, .ref tb, .int fu, .int ap, .int pp, .ref tr, .int v1_0, .ref fz, .int nm])), (tr, .inl (cI, 16, .inl v1_1))] H := hP
  have hD : va_D A [(sl, .inl (cI, 1653, .inl sf)), (h, .inr (7, [.ref sl, .int na, .ref zs, .ref ln, .ref ir, .ref tk, .int su, .int le, .ref tb, .int fu, .int ap, .int pp, .ref tr, .int v1_0, .ref fz, .int nm])), (tr, .inl (cI, 16, .inl v1_1))] := hD
  have c1_0 := hw_1
  have c1_0 : 0 ≤ v1_0.toInt ∧ v1_0.toInt ≤ 16 := c1_0
  refine lv_aload_n hx hb dX8_size10_6 rfl (lv_at hl 0 rfl) ?_
  refine va_get (D := D) (ci := 7) (v := .ref sl) (C := RX8) (T := TX8) (N := 16) hx hb hts (fun _ h => List.mem_cons_of_mem _ (List.mem_append_right _ h)) hown hK hP 1 rfl rfl 0 (by decide) (hts (.fieldLink RX8 7 "WinterWalkModel" "slot" "[I") (List.mem_of_getElem? (i := 1) rfl)) (fun _ h9 => h9) rfl dX8_size10_7 ?_
  refine lv_bipush (v := 48) hx hb dX8_size10_10 (by decide) ?_
  refine lv_iload_n hx hb dX8_size10_12 rfl (lv_at hl 1 rfl) ?_
  refine lv_iadd hx hb dX8_size10_13 ?_
  refine lv_topi (fun x_2 ex_2 => ?_)
  have e_2 : x_2.toInt = 48 + v.toInt := by rw [ex_2]; exact zi_add (by decide) (rfl) (by omega) (by omega)
  clear ex_2
  refine va_iald hx hb hK hP 0 0 rfl rfl (zi_in (by omega) (by omega)) dX8_size10_14 ?_
  refine lv_topi (fun x_3 ex_3 => ?_)
  have f_3 : 0 ≤ x_3.toInt ∧ x_3.toInt ≤ 7 := by rw [ex_3]; exact si_a hsi (s := 0) (k := v.toInt) (by omega) (by omega) (by omega)
  clear ex_3
  exact wr_i (v := x_3) hx hb hr hlocks hS (v1_0, v1_1) (by exact show 0 ≤ (v1_0 : Int32).toInt ∧ (v1_0 : Int32).toInt ≤ 16 from by omega) (hP.sub [1, 0, 2] rfl) (hD.sub [1, 0, 2] (by decide) rfl) dX8_size10_15
set_option maxHeartbeats 4000000 in
set_option maxRecDepth 100000 in
theorem g_X8_mark20 (l : Launch) (D : va_G) (cI cB cQ : ClassId) (sz : Nat) (h : Nat) (sl : Nat) (zs : Nat) (ln : Nat) (ir : Nat) (tk : Nat) (tb : Nat) (tr : Nat) (fz : Nat) (na : Int32) (su : Int32) (le : Int32) (fu : Int32) (ap : Int32) (pp : Int32) (tc : Int32) (nm : Int32) (v : Int32) (sf : Nat → Int32) (trf : Nat → Int32) (v0 : Int) (hsi : SI sf v0) (h_na : 0 ≤ na.toInt ∧ na.toInt ≤ 24) (h_le : 0 ≤ le.toInt ∧ le.toInt ≤ 120) (h_ap : 0 ≤ ap.toInt ∧ ap.toInt ≤ 120) (h_tc : 0 ≤ tc.toInt ∧ tc.toInt ≤ 16) (h_v : 0 ≤ v.toInt ∧ v.toInt ≤ 2) : mi l yX8_mark20 wsX8_mark20 ({ frames := 1, cells := 0, slots := 0, locals := 21 }) D cI cB cQ [.ref h, .int v] sz [(h, .inr (7, [.ref sl, .int na, .ref zs, .ref ln, .ref ir, .ref tk, .int su, .int le, .ref tb, .int fu, .int ap, .int pp, .ref tr, .int tc, .ref fz, .int nm])), (sl, .inl (cI, 1653, .inl sf)), (tr, .inl (cI, 16, .inl trf))] (fun (r : Int32) (u : Int32 × (Nat → Int32)) => (0 ≤ u.1.toInt ∧ u.1.toInt ≤ 16)) (fun u => [(h, .inr (7, [.ref sl, .int na, .ref zs, .ref ln, .ref ir, .ref tk, .int su, .int le, .ref tb, .int fu, .int ap, .int pp, .ref tr, .int u.1, .ref fz, .int nm])), (sl, .inl (cI, 1653, .inl sf)), (tr, .inl (cI, 16, .inl u.2))]) 0 0 := by
  refine wm_i (cc := cX8_mark20) (maxL := 2) (ret := (some .int)) (by decide) rfl (Nat.le_of_ble_eq_true rfl) ?_
  intro p e s m below meth c A ls hx hb hr hml hown hts hlocks hin hP hK hD hN hA hl hS
  have hown : s.vm.findClass RX8 = some m.cls := hown
  have hl : lv_has ls 2 [(0, .ref h), (1, .int v)] := hl
  change W p l e ({ frames := 1, cells := 0, slots := 0, locals := 21 }) s m ([.ref h, .int v] : List Value).toArray below meth c s.heap [] 0 0 (MQ below (va_Qi (fun (r : Int32) (u : Int32 × (Nat → Int32)) => (0 ≤ u.1.toInt ∧ u.1.toInt ≤ 16)) (fun u t => wb D A ((fun u => [(h, .inr (7, [.ref sl, .int na, .ref zs, .ref ln, .ref ir, .ref tk, .int su, .int le, .ref tb, .int fu, .int ap, .int pp, .ref tr, .int u.1, .ref fz, .int nm])), (sl, .inl (cI, 1653, .inl sf)), (tr, .inl (cI, 16, .inl u.2))]) u) t) A) ([.ref h, .int v] : List Value).toArray s 0 0 A) (F0 m 0 ls [])
  refine lv_aload_n hx hb dX8_mark20_0 rfl (lv_at hl 0 rfl) ?_
  refine lv_bipush (v := 20) hx hb dX8_mark20_1 (by decide) ?_
  have k_1 := (g_X8_begins l D cI cB cQ s.heap.size h sl zs ln ir tk tb tr fz na su le fu ap pp tc nm 20 trf (by omega) (by omega) (by omega) (by omega))
  refine wc_v (WC := [(h, .inr (7, [.ref sl, .int na, .ref zs, .ref ln, .ref ir, .ref tk, .int su, .int le, .ref tb, .int fu, .int ap, .int pp, .ref tr, .int tc, .ref fz, .int nm])), (tr, .inl (cI, 16, .inl trf))]) (WR := [(sl, .inl (cI, 1653, .inl sf))]) (va_runV (As := [.int 20]) (rest := []) ⟨hx, hb, hml, hown, hts⟩ k_1 (cwV 1 hts gX8_mark20_X8_begins rfl rfl rfl (by decide +kernel) ⟨Nat.le_of_ble_eq_true rfl, Nat.le_of_ble_eq_true rfl⟩) (wp_V hP hK hD hN [0, 2] (by decide) rfl (ci := 7) rfl rfl) rfl rfl hl.1 rfl (lv_room (Nat.le_of_ble_eq_true rfl)) dX8_mark20_3 ⟨Nat.le_of_ble_eq_true rfl, Nat.le_of_ble_eq_true rfl⟩) hP hD hS hA [0, 2] [1] rfl rfl (by decide) (by decide) (pe2 (fun v1_0 v1_1 H locs hw_1 hP hD hS => ?_))
  clear k_1
  have hP : va_P D kl [(sl, .inl (cI, 1653, .inl sf)), (h, .inr (7, [.ref sl, .int na, .ref zs, .ref ln, .ref ir, .ref tk, .int su, .int le, .ref tb, .int fu, .int ap, .int pp, .ref tr, .int v1_0, .ref fz, .int nm])), (tr, .inl (cI, 16, .inl v1_1))] H := hP
  have hD : va_D A [(sl, .inl (cI, 1653, .inl sf)), (h, .inr (7, [.ref sl, .int na, .ref zs, .ref ln, .ref ir, .ref tk, .int su, .int le, .ref tb, .int fu, .int ap, .int pp, .ref tr, .int v1_0, .ref fz, .int nm])), (tr, .inl (cI, 16, .inl v1_1))] := hD
  have c1_0 := hw_1
  have c1_0 : 0 ≤ v1_0.toInt ∧ v1_0.toInt ≤ 16 := c1_0
  refine lv_iload_n hx hb dX8_mark20_6 rfl (lv_at hl 1 rfl) ?_
  exact wr_i (v := v) hx hb hr hlocks hS (v1_0, v1_1) (by exact show 0 ≤ (v1_0 : Int32).toInt ∧ (v1_0 : Int32).toInt ≤ 16 from by omega) (hP.sub [1, 0, 2] rfl) (hD.sub [1, 0, 2] (by decide) rfl) dX8_mark20_7
set_option maxHeartbeats 4000000 in
set_option maxRecDepth 100000 in
theorem g_X8_mark21 (l : Launch) (D : va_G) (cI cB cQ : ClassId) (sz : Nat) (h : Nat) (sl : Nat) (zs : Nat) (ln : Nat) (ir : Nat) (tk : Nat) (tb : Nat) (tr : Nat) (fz : Nat) (na : Int32) (su : Int32) (le : Int32) (fu : Int32) (ap : Int32) (pp : Int32) (tc : Int32) (nm : Int32) (v : Int32) (sf : Nat → Int32) (trf : Nat → Int32) (v0 : Int) (hsi : SI sf v0) (h_na : 0 ≤ na.toInt ∧ na.toInt ≤ 24) (h_le : 0 ≤ le.toInt ∧ le.toInt ≤ 120) (h_ap : 0 ≤ ap.toInt ∧ ap.toInt ≤ 120) (h_tc : 0 ≤ tc.toInt ∧ tc.toInt ≤ 16) (h_v : 0 ≤ v.toInt ∧ v.toInt ≤ 2) : mi l yX8_mark21 wsX8_mark21 ({ frames := 2, cells := 0, slots := 0, locals := 42 }) D cI cB cQ [.ref h, .int v] sz [(h, .inr (7, [.ref sl, .int na, .ref zs, .ref ln, .ref ir, .ref tk, .int su, .int le, .ref tb, .int fu, .int ap, .int pp, .ref tr, .int tc, .ref fz, .int nm])), (sl, .inl (cI, 1653, .inl sf)), (tr, .inl (cI, 16, .inl trf))] (fun (r : Int32) (u : Int32 × (Nat → Int32)) => (0 ≤ u.1.toInt ∧ u.1.toInt ≤ 16)) (fun u => [(h, .inr (7, [.ref sl, .int na, .ref zs, .ref ln, .ref ir, .ref tk, .int su, .int le, .ref tb, .int fu, .int ap, .int pp, .ref tr, .int u.1, .ref fz, .int nm])), (sl, .inl (cI, 1653, .inl sf)), (tr, .inl (cI, 16, .inl u.2))]) 0 0 := by
  refine wm_i (cc := cX8_mark21) (maxL := 3) (ret := (some .int)) (by decide) rfl (Nat.le_of_ble_eq_true rfl) ?_
  intro p e s m below meth c A ls hx hb hr hml hown hts hlocks hin hP hK hD hN hA hl hS
  have hown : s.vm.findClass RX8 = some m.cls := hown
  have hl : lv_has ls 3 [(0, .ref h), (1, .int v)] := hl
  change W p l e ({ frames := 2, cells := 0, slots := 0, locals := 42 }) s m ([.ref h, .int v] : List Value).toArray below meth c s.heap [] 0 0 (MQ below (va_Qi (fun (r : Int32) (u : Int32 × (Nat → Int32)) => (0 ≤ u.1.toInt ∧ u.1.toInt ≤ 16)) (fun u t => wb D A ((fun u => [(h, .inr (7, [.ref sl, .int na, .ref zs, .ref ln, .ref ir, .ref tk, .int su, .int le, .ref tb, .int fu, .int ap, .int pp, .ref tr, .int u.1, .ref fz, .int nm])), (sl, .inl (cI, 1653, .inl sf)), (tr, .inl (cI, 16, .inl u.2))]) u) t) A) ([.ref h, .int v] : List Value).toArray s 0 0 A) (F0 m 0 ls [])
  refine lv_aload_n hx hb dX8_mark21_0 rfl (lv_at hl 0 rfl) ?_
  refine lv_bipush (v := 21) hx hb dX8_mark21_1 (by decide) ?_
  have k_1 := (g_X8_begins l D cI cB cQ s.heap.size h sl zs ln ir tk tb tr fz na su le fu ap pp tc nm 21 trf (by omega) (by omega) (by omega) (by omega))
  refine wc_v (WC := [(h, .inr (7, [.ref sl, .int na, .ref zs, .ref ln, .ref ir, .ref tk, .int su, .int le, .ref tb, .int fu, .int ap, .int pp, .ref tr, .int tc, .ref fz, .int nm])), (tr, .inl (cI, 16, .inl trf))]) (WR := [(sl, .inl (cI, 1653, .inl sf))]) (va_runV (As := [.int 21]) (rest := []) ⟨hx, hb, hml, hown, hts⟩ k_1 (cwV 1 hts gX8_mark21_X8_begins rfl rfl rfl (by decide +kernel) ⟨Nat.le_of_ble_eq_true rfl, Nat.le_of_ble_eq_true rfl⟩) (wp_V hP hK hD hN [0, 2] (by decide) rfl (ci := 7) rfl rfl) rfl rfl hl.1 rfl (lv_room (Nat.le_of_ble_eq_true rfl)) dX8_mark21_3 ⟨Nat.le_of_ble_eq_true rfl, Nat.le_of_ble_eq_true rfl⟩) hP hD hS hA [0, 2] [1] rfl rfl (by decide) (by decide) (pe2 (fun v1_0 v1_1 H locs hw_1 hP hD hS => ?_))
  clear k_1
  have hP : va_P D kl [(sl, .inl (cI, 1653, .inl sf)), (h, .inr (7, [.ref sl, .int na, .ref zs, .ref ln, .ref ir, .ref tk, .int su, .int le, .ref tb, .int fu, .int ap, .int pp, .ref tr, .int v1_0, .ref fz, .int nm])), (tr, .inl (cI, 16, .inl v1_1))] H := hP
  have hD : va_D A [(sl, .inl (cI, 1653, .inl sf)), (h, .inr (7, [.ref sl, .int na, .ref zs, .ref ln, .ref ir, .ref tk, .int su, .int le, .ref tb, .int fu, .int ap, .int pp, .ref tr, .int v1_0, .ref fz, .int nm])), (tr, .inl (cI, 16, .inl v1_1))] := hD
  have c1_0 := hw_1
  have c1_0 : 0 ≤ v1_0.toInt ∧ v1_0.toInt ≤ 16 := c1_0
  refine lv_aload_n hx hb dX8_mark21_6 rfl (lv_at hl 0 rfl) ?_
  refine lv_iload_n hx hb dX8_mark21_7 rfl (lv_at hl 1 rfl) ?_
  have k_2 := (g_X8_mark20 l D cI cB cQ H.size h sl zs ln ir tk tb tr fz na su le fu ap pp v1_0 nm v sf v1_1 v0 hsi (by omega) (by omega) (by omega) (by omega) (by omega))
  refine wc_i (WC := [(h, .inr (7, [.ref sl, .int na, .ref zs, .ref ln, .ref ir, .ref tk, .int su, .int le, .ref tb, .int fu, .int ap, .int pp, .ref tr, .int v1_0, .ref fz, .int nm])), (sl, .inl (cI, 1653, .inl sf)), (tr, .inl (cI, 16, .inl v1_1))]) (WR := []) (va_runV (As := [.int v]) (rest := []) ⟨hx, hb, hml, hown, hts⟩ k_2 (cwV 1 hts gX8_mark21_X8_mark20 rfl rfl rfl (by decide +kernel) ⟨Nat.le_of_ble_eq_true rfl, Nat.le_of_ble_eq_true rfl⟩) (wp_V hP hK hD hN [1, 0, 2] (by decide) rfl (ci := 7) rfl rfl) rfl rfl hl.1 rfl (lv_room (Nat.le_of_ble_eq_true rfl)) dX8_mark21_8 ⟨Nat.le_of_ble_eq_true rfl, Nat.le_of_ble_eq_true rfl⟩) hP hD hS hA [1, 0, 2] [] rfl rfl (by decide) (by decide) (fun r_2 => pe2 (fun v2_0 v2_1 H locs hw_2 hP hD hS => ?_))
  clear k_2
  have hP : va_P D kl [(h, .inr (7, [.ref sl, .int na, .ref zs, .ref ln, .ref ir, .ref tk, .int su, .int le, .ref tb, .int fu, .int ap, .int pp, .ref tr, .int v2_0, .ref fz, .int nm])), (sl, .inl (cI, 1653, .inl sf)), (tr, .inl (cI, 16, .inl v2_1))] H := hP
  have hD : va_D A [(h, .inr (7, [.ref sl, .int na, .ref zs, .ref ln, .ref ir, .ref tk, .int su, .int le, .ref tb, .int fu, .int ap, .int pp, .ref tr, .int v2_0, .ref fz, .int nm])), (sl, .inl (cI, 1653, .inl sf)), (tr, .inl (cI, 16, .inl v2_1))] := hD
  have c2_0 := hw_2
  have c2_0 : 0 ≤ v2_0.toInt ∧ v2_0.toInt ≤ 16 := c2_0
  refine lv_istore_n (lv' := [(2, .int r_2), (0, .ref h), (1, .int v)]) hx hb dX8_mark21_11 rfl hl (by decide) rfl (fun ls hl => ?_)
  refine lv_iload_n hx hb dX8_mark21_12 rfl (lv_at hl 0 rfl) ?_
  refine lv_aload_n hx hb dX8_mark21_13 rfl (lv_at hl 1 rfl) ?_
  refine va_get (D := D) (ci := 7) (v := .ref sl) (C := RX8) (T := TX8) (N := 16) hx hb hts (fun _ h => List.mem_cons_of_mem _ (List.mem_append_right _ h)) hown hK hP 0 rfl rfl 0 (by decide) (hts (.fieldLink RX8 7 "WinterWalkModel" "slot" "[I") (List.mem_of_getElem? (i := 1) rfl)) (fun _ h9 => h9) rfl dX8_mark21_14 ?_
  refine lv_bipush (v := 23) hx hb dX8_mark21_17 (by decide) ?_
  refine lv_aload_n hx hb dX8_mark21_19 rfl (lv_at hl 1 rfl) ?_
  refine va_get (D := D) (ci := 7) (v := .ref sl) (C := RX8) (T := TX8) (N := 16) hx hb hts (fun _ h => List.mem_cons_of_mem _ (List.mem_append_right _ h)) hown hK hP 0 rfl rfl 0 (by decide) (hts (.fieldLink RX8 7 "WinterWalkModel" "slot" "[I") (List.mem_of_getElem? (i := 1) rfl)) (fun _ h9 => h9) rfl dX8_mark21_20 ?_
  refine lv_bipush (v := 48) hx hb dX8_mark21_23 (by decide) ?_
  refine lv_iload_n hx hb dX8_mark21_25 rfl (lv_at hl 2 rfl) ?_
  refine lv_iadd hx hb dX8_mark21_26 ?_
  refine lv_topi (fun x_3 ex_3 => ?_)
  have e_3 : x_3.toInt = 48 + v.toInt := by rw [ex_3]; exact zi_add (by decide) (rfl) (by omega) (by omega)
  clear ex_3
  refine va_iald hx hb hK hP 1 0 rfl rfl (zi_in (by omega) (by omega)) dX8_mark21_27 ?_
  refine lv_topi (fun x_4 ex_4 => ?_)
  have f_4 : 0 ≤ x_4.toInt ∧ x_4.toInt ≤ 7 := by rw [ex_4]; exact si_a hsi (s := 0) (k := v.toInt) (by omega) (by omega) (by omega)
  clear ex_4
  refine lv_iadd hx hb dX8_mark21_28 ?_
  refine lv_topi (fun x_5 ex_5 => ?_)
  have e_5 : x_5.toInt = 23 + x_4.toInt := by rw [ex_5]; exact zi_add (by decide) (rfl) (by omega) (by omega)
  clear ex_5
  refine va_iald hx hb hK hP 1 0 rfl rfl (zi_in (by omega) (by omega)) dX8_mark21_29 ?_
  refine lv_topi (fun x_6 ex_6 => ?_)
  clear ex_6
  refine lv_iadd hx hb dX8_mark21_30 ?_
  refine lv_topi (fun x_7 ex_7 => ?_)
  clear ex_7
  exact wr_i (v := x_7) hx hb hr hlocks hS (v2_0, v2_1) (by exact show 0 ≤ (v2_0 : Int32).toInt ∧ (v2_0 : Int32).toInt ≤ 16 from by omega) (hP.sub [0, 1, 2] rfl) (hD.sub [0, 1, 2] (by decide) rfl) dX8_mark21_31
set_option maxHeartbeats 4000000 in
set_option maxRecDepth 100000 in
theorem g_X8_markOld (l : Launch) (D : va_G) (cI cB cQ : ClassId) (sz : Nat) (h : Nat) (sl : Nat) (zs : Nat) (ln : Nat) (ir : Nat) (tk : Nat) (tb : Nat) (tr : Nat) (fz : Nat) (na : Int32) (su : Int32) (le : Int32) (fu : Int32) (ap : Int32) (pp : Int32) (tc : Int32) (nm : Int32) (v : Int32) (sf : Nat → Int32) (trf : Nat → Int32) (v0 : Int) (hsi : SI sf v0) (h_na : 0 ≤ na.toInt ∧ na.toInt ≤ 24) (h_le : 0 ≤ le.toInt ∧ le.toInt ≤ 120) (h_ap : 0 ≤ ap.toInt ∧ ap.toInt ≤ 120) (h_tc : 0 ≤ tc.toInt ∧ tc.toInt ≤ 16) (h_v : 0 ≤ v.toInt ∧ v.toInt ≤ 2) : mi l yX8_markOld wsX8_markOld ({ frames := 3, cells := 0, slots := 0, locals := 64 }) D cI cB cQ [.ref h, .int v] sz [(h, .inr (7, [.ref sl, .int na, .ref zs, .ref ln, .ref ir, .ref tk, .int su, .int le, .ref tb, .int fu, .int ap, .int pp, .ref tr, .int tc, .ref fz, .int nm])), (sl, .inl (cI, 1653, .inl sf)), (tr, .inl (cI, 16, .inl trf))] (fun (r : Int32) (u : Int32 × (Nat → Int32)) => (0 ≤ u.1.toInt ∧ u.1.toInt ≤ 16)) (fun u => [(h, .inr (7, [.ref sl, .int na, .ref zs, .ref ln, .ref ir, .ref tk, .int su, .int le, .ref tb, .int fu, .int ap, .int pp, .ref tr, .int u.1, .ref fz, .int nm])), (sl, .inl (cI, 1653, .inl sf)), (tr, .inl (cI, 16, .inl u.2))]) 0 0 := by
  refine wm_i (cc := cX8_markOld) (maxL := 4) (ret := (some .int)) (by decide) rfl (Nat.le_of_ble_eq_true rfl) ?_
  intro p e s m below meth c A ls hx hb hr hml hown hts hlocks hin hP hK hD hN hA hl hS
  have hown : s.vm.findClass RX8 = some m.cls := hown
  have hl : lv_has ls 4 [(0, .ref h), (1, .int v)] := hl
  change W p l e ({ frames := 3, cells := 0, slots := 0, locals := 64 }) s m ([.ref h, .int v] : List Value).toArray below meth c s.heap [] 0 0 (MQ below (va_Qi (fun (r : Int32) (u : Int32 × (Nat → Int32)) => (0 ≤ u.1.toInt ∧ u.1.toInt ≤ 16)) (fun u t => wb D A ((fun u => [(h, .inr (7, [.ref sl, .int na, .ref zs, .ref ln, .ref ir, .ref tk, .int su, .int le, .ref tb, .int fu, .int ap, .int pp, .ref tr, .int u.1, .ref fz, .int nm])), (sl, .inl (cI, 1653, .inl sf)), (tr, .inl (cI, 16, .inl u.2))]) u) t) A) ([.ref h, .int v] : List Value).toArray s 0 0 A) (F0 m 0 ls [])
  refine lv_aload_n hx hb dX8_markOld_0 rfl (lv_at hl 0 rfl) ?_
  refine va_get (D := D) (ci := 7) (v := .ref sl) (C := RX8) (T := TX8) (N := 16) hx hb hts (fun _ h => List.mem_cons_of_mem _ (List.mem_append_right _ h)) hown hK hP 0 rfl rfl 0 (by decide) (hts (.fieldLink RX8 7 "WinterWalkModel" "slot" "[I") (List.mem_of_getElem? (i := 1) rfl)) (fun _ h9 => h9) rfl dX8_markOld_1 ?_
  refine lv_bipush (v := 20) hx hb dX8_markOld_4 (by decide) ?_
  refine lv_iload_n hx hb dX8_markOld_6 rfl (lv_at hl 1 rfl) ?_
  refine lv_iadd hx hb dX8_markOld_7 ?_
  refine lv_topi (fun x_1 ex_1 => ?_)
  have e_1 : x_1.toInt = 20 + v.toInt := by rw [ex_1]; exact zi_add (by decide) (rfl) (by omega) (by omega)
  clear ex_1
  refine va_iald hx hb hK hP 1 0 rfl rfl (zi_in (by omega) (by omega)) dX8_markOld_8 ?_
  refine lv_topi (fun x_2 ex_2 => ?_)
  clear ex_2
  refine lv_istore_n (lv' := [(2, .int x_2), (0, .ref h), (1, .int v)]) hx hb dX8_markOld_9 rfl hl (by decide) rfl (fun ls hl => ?_)
  refine lv_iload_n hx hb dX8_markOld_10 rfl (lv_at hl 0 rfl) ?_
  refine lv_iconst (v := 1) hx hb dX8_markOld_11 (by decide) ?_
  refine lv_icmp_ne (tgt := 21) hx hb dX8_markOld_12 (by decide) (fun c_3 => ?_) (fun c_3 => ?_)
  · have f_3 : ¬ x_2.toInt = 1 := zi_ne c_3
    refine lv_aload_n hx hb dX8_markOld_21 rfl (lv_at hl 1 rfl) ?_
    refine lv_iload_n hx hb dX8_markOld_22 rfl (lv_at hl 0 rfl) ?_
    refine lv_iconst (v := 3) hx hb dX8_markOld_23 (by decide) ?_
    refine lv_icmp_ne (tgt := 32) hx hb dX8_markOld_24 (by decide) (fun c_4 => ?_) (fun c_4 => ?_)
    · have f_4 : ¬ x_2.toInt = 3 := zi_ne c_4
      refine lv_bipush (v := 24) hx hb dX8_markOld_32 (by decide) ?_
      have k_5 := (g_X8_begins l D cI cB cQ s.heap.size h sl zs ln ir tk tb tr fz na su le fu ap pp tc nm 24 trf (by omega) (by omega) (by omega) (by omega))
      refine wc_v (WC := [(h, .inr (7, [.ref sl, .int na, .ref zs, .ref ln, .ref ir, .ref tk, .int su, .int le, .ref tb, .int fu, .int ap, .int pp, .ref tr, .int tc, .ref fz, .int nm])), (tr, .inl (cI, 16, .inl trf))]) (WR := [(sl, .inl (cI, 1653, .inl sf))]) (va_runV (As := [.int 24]) (rest := []) ⟨hx, hb, hml, hown, hts⟩ k_5 (cwV 1 hts gX8_markOld_X8_begins rfl rfl rfl (by decide +kernel) ⟨Nat.le_of_ble_eq_true rfl, Nat.le_of_ble_eq_true rfl⟩) (wp_V hP hK hD hN [0, 2] (by decide) rfl (ci := 7) rfl rfl) rfl rfl hl.1 rfl (lv_room (Nat.le_of_ble_eq_true rfl)) dX8_markOld_34 ⟨Nat.le_of_ble_eq_true rfl, Nat.le_of_ble_eq_true rfl⟩) hP hD hS hA [0, 2] [1] rfl rfl (by decide) (by decide) (pe2 (fun v5_0 v5_1 H locs hw_5 hP hD hS => ?_))
      clear k_5
      have hP : va_P D kl [(sl, .inl (cI, 1653, .inl sf)), (h, .inr (7, [.ref sl, .int na, .ref zs, .ref ln, .ref ir, .ref tk, .int su, .int le, .ref tb, .int fu, .int ap, .int pp, .ref tr, .int v5_0, .ref fz, .int nm])), (tr, .inl (cI, 16, .inl v5_1))] H := hP
      have hD : va_D A [(sl, .inl (cI, 1653, .inl sf)), (h, .inr (7, [.ref sl, .int na, .ref zs, .ref ln, .ref ir, .ref tk, .int su, .int le, .ref tb, .int fu, .int ap, .int pp, .ref tr, .int v5_0, .ref fz, .int nm])), (tr, .inl (cI, 16, .inl v5_1))] := hD
      have c5_0 := hw_5
      have c5_0 : 0 ≤ v5_0.toInt ∧ v5_0.toInt ≤ 16 := c5_0
      refine lv_aload_n hx hb dX8_markOld_37 rfl (lv_at hl 1 rfl) ?_
      refine lv_iload_n hx hb dX8_markOld_38 rfl (lv_at hl 2 rfl) ?_
      have k_6 := (g_X8_mark21 l D cI cB cQ H.size h sl zs ln ir tk tb tr fz na su le fu ap pp v5_0 nm v sf v5_1 v0 hsi (by omega) (by omega) (by omega) (by omega) (by omega))
      refine wc_i (WC := [(h, .inr (7, [.ref sl, .int na, .ref zs, .ref ln, .ref ir, .ref tk, .int su, .int le, .ref tb, .int fu, .int ap, .int pp, .ref tr, .int v5_0, .ref fz, .int nm])), (sl, .inl (cI, 1653, .inl sf)), (tr, .inl (cI, 16, .inl v5_1))]) (WR := []) (va_runV (As := [.int v]) (rest := []) ⟨hx, hb, hml, hown, hts⟩ k_6 (cwV 1 hts gX8_markOld_X8_mark21 rfl rfl rfl (by decide +kernel) ⟨Nat.le_of_ble_eq_true rfl, Nat.le_of_ble_eq_true rfl⟩) (wp_V hP hK hD hN [1, 0, 2] (by decide) rfl (ci := 7) rfl rfl) rfl rfl hl.1 rfl (lv_room (Nat.le_of_ble_eq_true rfl)) dX8_markOld_39 ⟨Nat.le_of_ble_eq_true rfl, Nat.le_of_ble_eq_true rfl⟩) hP hD hS hA [1, 0, 2] [] rfl rfl (by decide) (by decide) (fun r_6 => pe2 (fun v6_0 v6_1 H locs hw_6 hP hD hS => ?_))
      clear k_6
      have hP : va_P D kl [(h, .inr (7, [.ref sl, .int na, .ref zs, .ref ln, .ref ir, .ref tk, .int su, .int le, .ref tb, .int fu, .int ap, .int pp, .ref tr, .int v6_0, .ref fz, .int nm])), (sl, .inl (cI, 1653, .inl sf)), (tr, .inl (cI, 16, .inl v6_1))] H := hP
      have hD : va_D A [(h, .inr (7, [.ref sl, .int na, .ref zs, .ref ln, .ref ir, .ref tk, .int su, .int le, .ref tb, .int fu, .int ap, .int pp, .ref tr, .int v6_0, .ref fz, .int nm])), (sl, .inl (cI, 1653, .inl sf)), (tr, .inl (cI, 16, .inl v6_1))] := hD
      have c6_0 := hw_6
      have c6_0 : 0 ≤ v6_0.toInt ∧ v6_0.toInt ≤ 16 := c6_0
      refine lv_istore_n (lv' := [(3, .int r_6), (2, .int x_2), (0, .ref h), (1, .int v)]) hx hb dX8_markOld_42 rfl hl (by decide) rfl (fun ls hl => ?_)
      refine lv_iload_n hx hb dX8_markOld_43 rfl (lv_at hl 1 rfl) ?_
      refine lv_iconst (v := 3) hx hb dX8_markOld_44 (by decide) ?_
      refine lv_icmp_ne (tgt := 56) hx hb dX8_markOld_45 (by decide) (fun c_7 => ?_) (fun c_7 => ?_)
      · have f_7 : ¬ x_2.toInt = 3 := zi_ne c_7
        refine lv_iconst (v := 2) hx hb dX8_markOld_56 (by decide) ?_
        refine lv_iload_n hx hb dX8_markOld_57 rfl (lv_at hl 0 rfl) ?_
        refine lv_imul hx hb dX8_markOld_58 ?_
        refine lv_topi (fun x_8 ex_8 => ?_)
        clear ex_8
        exact wr_i (v := x_8) hx hb hr hlocks hS (v6_0, v6_1) (by exact show 0 ≤ (v6_0 : Int32).toInt ∧ (v6_0 : Int32).toInt ≤ 16 from by omega) (hP.sub [0, 1, 2] rfl) (hD.sub [0, 1, 2] (by decide) rfl) dX8_markOld_59
      · have f_7 : x_2.toInt = 3 := zi_eq c_7
        refine lv_iload_n hx hb dX8_markOld_48 rfl (lv_at hl 0 rfl) ?_
        refine lv_sipush (v := 1000) hx hb dX8_markOld_49 (by decide) ?_
        refine lv_isub hx hb dX8_markOld_52 ?_
        refine lv_topi (fun x_9 ex_9 => ?_)
        clear ex_9
        refine lv_goto (tgt := 59) hx hb dX8_markOld_53 (by decide) ?_
        exact wr_i (v := x_9) hx hb hr hlocks hS (v6_0, v6_1) (by exact show 0 ≤ (v6_0 : Int32).toInt ∧ (v6_0 : Int32).toInt ≤ 16 from by omega) (hP.sub [0, 1, 2] rfl) (hD.sub [0, 1, 2] (by decide) rfl) dX8_markOld_59
    · have f_4 : x_2.toInt = 3 := zi_eq c_4
      refine lv_bipush (v := 22) hx hb dX8_markOld_27 (by decide) ?_
      refine lv_goto (tgt := 34) hx hb dX8_markOld_29 (by decide) ?_
      have k_10 := (g_X8_begins l D cI cB cQ s.heap.size h sl zs ln ir tk tb tr fz na su le fu ap pp tc nm 22 trf (by omega) (by omega) (by omega) (by omega))
      refine wc_v (WC := [(h, .inr (7, [.ref sl, .int na, .ref zs, .ref ln, .ref ir, .ref tk, .int su, .int le, .ref tb, .int fu, .int ap, .int pp, .ref tr, .int tc, .ref fz, .int nm])), (tr, .inl (cI, 16, .inl trf))]) (WR := [(sl, .inl (cI, 1653, .inl sf))]) (va_runV (As := [.int 22]) (rest := []) ⟨hx, hb, hml, hown, hts⟩ k_10 (cwV 1 hts gX8_markOld_X8_begins rfl rfl rfl (by decide +kernel) ⟨Nat.le_of_ble_eq_true rfl, Nat.le_of_ble_eq_true rfl⟩) (wp_V hP hK hD hN [0, 2] (by decide) rfl (ci := 7) rfl rfl) rfl rfl hl.1 rfl (lv_room (Nat.le_of_ble_eq_true rfl)) dX8_markOld_34 ⟨Nat.le_of_ble_eq_true rfl, Nat.le_of_ble_eq_true rfl⟩) hP hD hS hA [0, 2] [1] rfl rfl (by decide) (by decide) (pe2 (fun v10_0 v10_1 H locs hw_10 hP hD hS => ?_))
      clear k_10
      have hP : va_P D kl [(sl, .inl (cI, 1653, .inl sf)), (h, .inr (7, [.ref sl, .int na, .ref zs, .ref ln, .ref ir, .ref tk, .int su, .int le, .ref tb, .int fu, .int ap, .int pp, .ref tr, .int v10_0, .ref fz, .int nm])), (tr, .inl (cI, 16, .inl v10_1))] H := hP
      have hD : va_D A [(sl, .inl (cI, 1653, .inl sf)), (h, .inr (7, [.ref sl, .int na, .ref zs, .ref ln, .ref ir, .ref tk, .int su, .int le, .ref tb, .int fu, .int ap, .int pp, .ref tr, .int v10_0, .ref fz, .int nm])), (tr, .inl (cI, 16, .inl v10_1))] := hD
      have c10_0 := hw_10
      have c10_0 : 0 ≤ v10_0.toInt ∧ v10_0.toInt ≤ 16 := c10_0
      refine lv_aload_n hx hb dX8_markOld_37 rfl (lv_at hl 1 rfl) ?_
      refine lv_iload_n hx hb dX8_markOld_38 rfl (lv_at hl 2 rfl) ?_
      have k_11 := (g_X8_mark21 l D cI cB cQ H.size h sl zs ln ir tk tb tr fz na su le fu ap pp v10_0 nm v sf v10_1 v0 hsi (by omega) (by omega) (by omega) (by omega) (by omega))
      refine wc_i (WC := [(h, .inr (7, [.ref sl, .int na, .ref zs, .ref ln, .ref ir, .ref tk, .int su, .int le, .ref tb, .int fu, .int ap, .int pp, .ref tr, .int v10_0, .ref fz, .int nm])), (sl, .inl (cI, 1653, .inl sf)), (tr, .inl (cI, 16, .inl v10_1))]) (WR := []) (va_runV (As := [.int v]) (rest := []) ⟨hx, hb, hml, hown, hts⟩ k_11 (cwV 1 hts gX8_markOld_X8_mark21 rfl rfl rfl (by decide +kernel) ⟨Nat.le_of_ble_eq_true rfl, Nat.le_of_ble_eq_true rfl⟩) (wp_V hP hK hD hN [1, 0, 2] (by decide) rfl (ci := 7) rfl rfl) rfl rfl hl.1 rfl (lv_room (Nat.le_of_ble_eq_true rfl)) dX8_markOld_39 ⟨Nat.le_of_ble_eq_true rfl, Nat.le_of_ble_eq_true rfl⟩) hP hD hS hA [1, 0, 2] [] rfl rfl (by decide) (by decide) (fun r_11 => pe2 (fun v11_0 v11_1 H locs hw_11 hP hD hS => ?_))
      clear k_11
      have hP : va_P D kl [(h, .inr (7, [.ref sl, .int na, .ref zs, .ref ln, .ref ir, .ref tk, .int su, .int le, .ref tb, .int fu, .int ap, .int pp, .ref tr, .int v11_0, .ref fz, .int nm])), (sl, .inl (cI, 1653, .inl sf)), (tr, .inl (cI, 16, .inl v11_1))] H := hP
      have hD : va_D A [(h, .inr (7, [.ref sl, .int na, .ref zs, .ref ln, .ref ir, .ref tk, .int su, .int le, .ref tb, .int fu, .int ap, .int pp, .ref tr, .int v11_0, .ref fz, .int nm])), (sl, .inl (cI, 1653, .inl sf)), (tr, .inl (cI, 16, .inl v11_1))] := hD
      have c11_0 := hw_11
      have c11_0 : 0 ≤ v11_0.toInt ∧ v11_0.toInt ≤ 16 := c11_0
      refine lv_istore_n (lv' := [(3, .int r_11), (2, .int x_2), (0, .ref h), (1, .int v)]) hx hb dX8_markOld_42 rfl hl (by decide) rfl (fun ls hl => ?_)
      refine lv_iload_n hx hb dX8_markOld_43 rfl (lv_at hl 1 rfl) ?_
      refine lv_iconst (v := 3) hx hb dX8_markOld_44 (by decide) ?_
      refine lv_icmp_ne (tgt := 56) hx hb dX8_markOld_45 (by decide) (fun c_12 => ?_) (fun c_12 => ?_)
      · have f_12 : ¬ x_2.toInt = 3 := zi_ne c_12
        refine lv_iconst (v := 2) hx hb dX8_markOld_56 (by decide) ?_
        refine lv_iload_n hx hb dX8_markOld_57 rfl (lv_at hl 0 rfl) ?_
        refine lv_imul hx hb dX8_markOld_58 ?_
        refine lv_topi (fun x_13 ex_13 => ?_)
        clear ex_13
        exact wr_i (v := x_13) hx hb hr hlocks hS (v11_0, v11_1) (by exact show 0 ≤ (v11_0 : Int32).toInt ∧ (v11_0 : Int32).toInt ≤ 16 from by omega) (hP.sub [0, 1, 2] rfl) (hD.sub [0, 1, 2] (by decide) rfl) dX8_markOld_59
      · have f_12 : x_2.toInt = 3 := zi_eq c_12
        refine lv_iload_n hx hb dX8_markOld_48 rfl (lv_at hl 0 rfl) ?_
        refine lv_sipush (v := 1000) hx hb dX8_markOld_49 (by decide) ?_
        refine lv_isub hx hb dX8_markOld_52 ?_
        refine lv_topi (fun x_14 ex_14 => ?_)
        clear ex_14
        refine lv_goto (tgt := 59) hx hb dX8_markOld_53 (by decide) ?_
        exact wr_i (v := x_14) hx hb hr hlocks hS (v11_0, v11_1) (by exact show 0 ≤ (v11_0 : Int32).toInt ∧ (v11_0 : Int32).toInt ≤ 16 from by omega) (hP.sub [0, 1, 2] rfl) (hD.sub [0, 1, 2] (by decide) rfl) dX8_markOld_59
  · have f_3 : x_2.toInt = 1 := zi_eq c_3
    refine lv_aload_n hx hb dX8_markOld_15 rfl (lv_at hl 1 rfl) ?_
    refine lv_iload_n hx hb dX8_markOld_16 rfl (lv_at hl 2 rfl) ?_
    have k_15 := (g_X8_mark21 l D cI cB cQ s.heap.size h sl zs ln ir tk tb tr fz na su le fu ap pp tc nm v sf trf v0 hsi (by omega) (by omega) (by omega) (by omega) (by omega))
    refine wc_i (WC := [(h, .inr (7, [.ref sl, .int na, .ref zs, .ref ln, .ref ir, .ref tk, .int su, .int le, .ref tb, .int fu, .int ap, .int pp, .ref tr, .int tc, .ref fz, .int nm])), (sl, .inl (cI, 1653, .inl sf)), (tr, .inl (cI, 16, .inl trf))]) (WR := []) (va_runV (As := [.int v]) (rest := []) ⟨hx, hb, hml, hown, hts⟩ k_15 (cwV 1 hts gX8_markOld_X8_mark21 rfl rfl rfl (by decide +kernel) ⟨Nat.le_of_ble_eq_true rfl, Nat.le_of_ble_eq_true rfl⟩) (wp_V hP hK hD hN [0, 1, 2] (by decide) rfl (ci := 7) rfl rfl) rfl rfl hl.1 rfl (lv_room (Nat.le_of_ble_eq_true rfl)) dX8_markOld_17 ⟨Nat.le_of_ble_eq_true rfl, Nat.le_of_ble_eq_true rfl⟩) hP hD hS hA [0, 1, 2] [] rfl rfl (by decide) (by decide) (fun r_15 => pe2 (fun v15_0 v15_1 H locs hw_15 hP hD hS => ?_))
    clear k_15
    have hP : va_P D kl [(h, .inr (7, [.ref sl, .int na, .ref zs, .ref ln, .ref ir, .ref tk, .int su, .int le, .ref tb, .int fu, .int ap, .int pp, .ref tr, .int v15_0, .ref fz, .int nm])), (sl, .inl (cI, 1653, .inl sf)), (tr, .inl (cI, 16, .inl v15_1))] H := hP
    have hD : va_D A [(h, .inr (7, [.ref sl, .int na, .ref zs, .ref ln, .ref ir, .ref tk, .int su, .int le, .ref tb, .int fu, .int ap, .int pp, .ref tr, .int v15_0, .ref fz, .int nm])), (sl, .inl (cI, 1653, .inl sf)), (tr, .inl (cI, 16, .inl v15_1))] := hD
    have c15_0 := hw_15
    have c15_0 : 0 ≤ v15_0.toInt ∧ v15_0.toInt ≤ 16 := c15_0
    exact wr_i (v := r_15) hx hb hr hlocks hS (v15_0, v15_1) (by exact show 0 ≤ (v15_0 : Int32).toInt ∧ (v15_0 : Int32).toInt ≤ 16 from by omega) (hP.sub [0, 1, 2] rfl) (hD.sub [0, 1, 2] (by decide) rfl) dX8_markOld_20
set_option maxHeartbeats 4000000 in
set_option maxRecDepth 100000 in
theorem g_X8_size11 (l : Launch) (D : va_G) (cI cB cQ : ClassId) (sz : Nat) (h : Nat) (sl : Nat) (zs : Nat) (ln : Nat) (ir : Nat) (tk : Nat) (tb : Nat) (tr : Nat) (fz : Nat) (na : Int32) (su : Int32) (le : Int32) (fu : Int32) (ap : Int32) (pp : Int32) (tc : Int32) (nm : Int32) (v : Int32) (sf : Nat → Int32) (trf : Nat → Int32) (v0 : Int) (hsi : SI sf v0) (h_na : 0 ≤ na.toInt ∧ na.toInt ≤ 24) (h_le : 0 ≤ le.toInt ∧ le.toInt ≤ 120) (h_ap : 0 ≤ ap.toInt ∧ ap.toInt ≤ 120) (h_tc : 0 ≤ tc.toInt ∧ tc.toInt ≤ 16) (h_v : 0 ≤ v.toInt ∧ v.toInt ≤ 2) : mi l yX8_size11 wsX8_size11 ({ frames := 4, cells := 0, slots := 0, locals := 87 }) D cI cB cQ [.ref h, .int v] sz [(h, .inr (7, [.ref sl, .int na, .ref zs, .ref ln, .ref ir, .ref tk, .int su, .int le, .ref tb, .int fu, .int ap, .int pp, .ref tr, .int tc, .ref fz, .int nm])), (sl, .inl (cI, 1653, .inl sf)), (tr, .inl (cI, 16, .inl trf))] (fun (r : Int32) (u : Int32 × (Nat → Int32)) => (0 ≤ u.1.toInt ∧ u.1.toInt ≤ 16)) (fun u => [(h, .inr (7, [.ref sl, .int na, .ref zs, .ref ln, .ref ir, .ref tk, .int su, .int le, .ref tb, .int fu, .int ap, .int pp, .ref tr, .int u.1, .ref fz, .int nm])), (sl, .inl (cI, 1653, .inl sf)), (tr, .inl (cI, 16, .inl u.2))]) 0 0 := by
  refine wm_i (cc := cX8_size11) (maxL := 3) (ret := (some .int)) (by decide) rfl (Nat.le_of_ble_eq_true rfl) ?_
  intro p e s m below meth c A ls hx hb hr hml hown hts hlocks hin hP hK hD hN hA hl hS
  have hown : s.vm.findClass RX8 = some m.cls := hown
  have hl : lv_has ls 3 [(0, .ref h), (1, .int v)] := hl
  change W p l e ({ frames := 4, cells := 0, slots := 0, locals := 87 }) s m ([.ref h, .int v] : List Value).toArray below meth c s.heap [] 0 0 (MQ below (va_Qi (fun (r : Int32) (u : Int32 × (Nat → Int32)) => (0 ≤ u.1.toInt ∧ u.1.toInt ≤ 16)) (fun u t => wb D A ((fun u => [(h, .inr (7, [.ref sl, .int na, .ref zs, .ref ln, .ref ir, .ref tk, .int su, .int le, .ref tb, .int fu, .int ap, .int pp, .ref tr, .int u.1, .ref fz, .int nm])), (sl, .inl (cI, 1653, .inl sf)), (tr, .inl (cI, 16, .inl u.2))]) u) t) A) ([.ref h, .int v] : List Value).toArray s 0 0 A) (F0 m 0 ls [])
  refine lv_aload_n hx hb dX8_size11_0 rfl (lv_at hl 0 rfl) ?_
  refine lv_bipush (v := 11) hx hb dX8_size11_1 (by decide) ?_
  have k_1 := (g_X8_begins l D cI cB cQ s.heap.size h sl zs ln ir tk tb tr fz na su le fu ap pp tc nm 11 trf (by omega) (by omega) (by omega) (by omega))
  refine wc_v (WC := [(h, .inr (7, [.ref sl, .int na, .ref zs, .ref ln, .ref ir, .ref tk, .int su, .int le, .ref tb, .int fu, .int ap, .int pp, .ref tr, .int tc, .ref fz, .int nm])), (tr, .inl (cI, 16, .inl trf))]) (WR := [(sl, .inl (cI, 1653, .inl sf))]) (va_runV (As := [.int 11]) (rest := []) ⟨hx, hb, hml, hown, hts⟩ k_1 (cwV 1 hts gX8_size11_X8_begins rfl rfl rfl (by decide +kernel) ⟨Nat.le_of_ble_eq_true rfl, Nat.le_of_ble_eq_true rfl⟩) (wp_V hP hK hD hN [0, 2] (by decide) rfl (ci := 7) rfl rfl) rfl rfl hl.1 rfl (lv_room (Nat.le_of_ble_eq_true rfl)) dX8_size11_3 ⟨Nat.le_of_ble_eq_true rfl, Nat.le_of_ble_eq_true rfl⟩) hP hD hS hA [0, 2] [1] rfl rfl (by decide) (by decide) (pe2 (fun v1_0 v1_1 H locs hw_1 hP hD hS => ?_))
  clear k_1
  have hP : va_P D kl [(sl, .inl (cI, 1653, .inl sf)), (h, .inr (7, [.ref sl, .int na, .ref zs, .ref ln, .ref ir, .ref tk, .int su, .int le, .ref tb, .int fu, .int ap, .int pp, .ref tr, .int v1_0, .ref fz, .int nm])), (tr, .inl (cI, 16, .inl v1_1))] H := hP
  have hD : va_D A [(sl, .inl (cI, 1653, .inl sf)), (h, .inr (7, [.ref sl, .int na, .ref zs, .ref ln, .ref ir, .ref tk, .int su, .int le, .ref tb, .int fu, .int ap, .int pp, .ref tr, .int v1_0, .ref fz, .int nm])), (tr, .inl (cI, 16, .inl v1_1))] := hD
  have c1_0 := hw_1
  have c1_0 : 0 ≤ v1_0.toInt ∧ v1_0.toInt ≤ 16 := c1_0
  refine lv_aload_n hx hb dX8_size11_6 rfl (lv_at hl 0 rfl) ?_
  refine lv_iload_n hx hb dX8_size11_7 rfl (lv_at hl 1 rfl) ?_
  have k_2 := (g_X8_size10 l D cI cB cQ H.size h sl zs ln ir tk tb tr fz na su le fu ap pp v1_0 nm v sf v1_1 v0 hsi (by omega) (by omega) (by omega) (by omega) (by omega))
  refine wc_i (WC := [(h, .inr (7, [.ref sl, .int na, .ref zs, .ref ln, .ref ir, .ref tk, .int su, .int le, .ref tb, .int fu, .int ap, .int pp, .ref tr, .int v1_0, .ref fz, .int nm])), (sl, .inl (cI, 1653, .inl sf)), (tr, .inl (cI, 16, .inl v1_1))]) (WR := []) (va_runV (As := [.int v]) (rest := []) ⟨hx, hb, hml, hown, hts⟩ k_2 (cwV 1 hts gX8_size11_X8_size10 rfl rfl rfl (by decide +kernel) ⟨Nat.le_of_ble_eq_true rfl, Nat.le_of_ble_eq_true rfl⟩) (wp_V hP hK hD hN [1, 0, 2] (by decide) rfl (ci := 7) rfl rfl) rfl rfl hl.1 rfl (lv_room (Nat.le_of_ble_eq_true rfl)) dX8_size11_8 ⟨Nat.le_of_ble_eq_true rfl, Nat.le_of_ble_eq_true rfl⟩) hP hD hS hA [1, 0, 2] [] rfl rfl (by decide) (by decide) (fun r_2 => pe2 (fun v2_0 v2_1 H locs hw_2 hP hD hS => ?_))
  clear k_2
  have hP : va_P D kl [(h, .inr (7, [.ref sl, .int na, .ref zs, .ref ln, .ref ir, .ref tk, .int su, .int le, .ref tb, .int fu, .int ap, .int pp, .ref tr, .int v2_0, .ref fz, .int nm])), (sl, .inl (cI, 1653, .inl sf)), (tr, .inl (cI, 16, .inl v2_1))] H := hP
  have hD : va_D A [(h, .inr (7, [.ref sl, .int na, .ref zs, .ref ln, .ref ir, .ref tk, .int su, .int le, .ref tb, .int fu, .int ap, .int pp, .ref tr, .int v2_0, .ref fz, .int nm])), (sl, .inl (cI, 1653, .inl sf)), (tr, .inl (cI, 16, .inl v2_1))] := hD
  have c2_0 := hw_2
  have c2_0 : 0 ≤ v2_0.toInt ∧ v2_0.toInt ≤ 16 := c2_0
  refine lv_istore_n (lv' := [(2, .int r_2), (0, .ref h), (1, .int v)]) hx hb dX8_size11_11 rfl hl (by decide) rfl (fun ls hl => ?_)
  refine lv_iload_n hx hb dX8_size11_12 rfl (lv_at hl 0 rfl) ?_
  refine lv_aload_n hx hb dX8_size11_13 rfl (lv_at hl 1 rfl) ?_
  refine lv_iload_n hx hb dX8_size11_14 rfl (lv_at hl 2 rfl) ?_
  have k_3 := (g_X8_markOld l D cI cB cQ H.size h sl zs ln ir tk tb tr fz na su le fu ap pp v2_0 nm v sf v2_1 v0 hsi (by omega) (by omega) (by omega) (by omega) (by omega))
  refine wc_i (WC := [(h, .inr (7, [.ref sl, .int na, .ref zs, .ref ln, .ref ir, .ref tk, .int su, .int le, .ref tb, .int fu, .int ap, .int pp, .ref tr, .int v2_0, .ref fz, .int nm])), (sl, .inl (cI, 1653, .inl sf)), (tr, .inl (cI, 16, .inl v2_1))]) (WR := []) (va_runV (As := [.int v]) (rest := [.int r_2]) ⟨hx, hb, hml, hown, hts⟩ k_3 (cwV 1 hts gX8_size11_X8_markOld rfl rfl rfl (by decide +kernel) ⟨Nat.le_of_ble_eq_true rfl, Nat.le_of_ble_eq_true rfl⟩) (wp_V hP hK hD hN [0, 1, 2] (by decide) rfl (ci := 7) rfl rfl) rfl rfl hl.1 rfl (lv_room (Nat.le_of_ble_eq_true rfl)) dX8_size11_15 ⟨Nat.le_of_ble_eq_true rfl, Nat.le_of_ble_eq_true rfl⟩) hP hD hS hA [0, 1, 2] [] rfl rfl (by decide) (by decide) (fun r_3 => pe2 (fun v3_0 v3_1 H locs hw_3 hP hD hS => ?_))
  clear k_3
  have hP : va_P D kl [(h, .inr (7, [.ref sl, .int na, .ref zs, .ref ln, .ref ir, .ref tk, .int su, .int le, .ref tb, .int fu, .int ap, .int pp, .ref tr, .int v3_0, .ref fz, .int nm])), (sl, .inl (cI, 1653, .inl sf)), (tr, .inl (cI, 16, .inl v3_1))] H := hP
  have hD : va_D A [(h, .inr (7, [.ref sl, .int na, .ref zs, .ref ln, .ref ir, .ref tk, .int su, .int le, .ref tb, .int fu, .int ap, .int pp, .ref tr, .int v3_0, .ref fz, .int nm])), (sl, .inl (cI, 1653, .inl sf)), (tr, .inl (cI, 16, .inl v3_1))] := hD
  have c3_0 := hw_3
  have c3_0 : 0 ≤ v3_0.toInt ∧ v3_0.toInt ≤ 16 := c3_0
  refine lv_iadd hx hb dX8_size11_18 ?_
  refine lv_topi (fun x_4 ex_4 => ?_)
  clear ex_4
  exact wr_i (v := x_4) hx hb hr hlocks hS (v3_0, v3_1) (by exact show 0 ≤ (v3_0 : Int32).toInt ∧ (v3_0 : Int32).toInt ≤ 16 from by omega) (hP.sub [0, 1, 2] rfl) (hD.sub [0, 1, 2] (by decide) rfl) dX8_size11_19
set_option maxHeartbeats 4000000 in
set_option maxRecDepth 100000 in
theorem g_X8_size13 (l : Launch) (D : va_G) (cI cB cQ : ClassId) (sz : Nat) (h : Nat) (sl : Nat) (zs : Nat) (ln : Nat) (ir : Nat) (tk : Nat) (tb : Nat) (tr : Nat) (fz : Nat) (na : Int32) (su : Int32) (le : Int32) (fu : Int32) (ap : Int32) (pp : Int32) (tc : Int32) (nm : Int32) (v : Int32) (sf : Nat → Int32) (trf : Nat → Int32) (v0 : Int) (hsi : SI sf v0) (h_na : 0 ≤ na.toInt ∧ na.toInt ≤ 24) (h_le : 0 ≤ le.toInt ∧ le.toInt ≤ 120) (h_ap : 0 ≤ ap.toInt ∧ ap.toInt ≤ 120) (h_tc : 0 ≤ tc.toInt ∧ tc.toInt ≤ 16) (h_v : 0 ≤ v.toInt ∧ v.toInt ≤ 2) : mi l yX8_size13 wsX8_size13 ({ frames := 2, cells := 0, slots := 0, locals := 42 }) D cI cB cQ [.ref h, .int v] sz [(h, .inr (7, [.ref sl, .int na, .ref zs, .ref ln, .ref ir, .ref tk, .int su, .int le, .ref tb, .int fu, .int ap, .int pp, .ref tr, .int tc, .ref fz, .int nm])), (sl, .inl (cI, 1653, .inl sf)), (tr, .inl (cI, 16, .inl trf))] (fun (r : Int32) (u : Int32 × (Nat → Int32)) => (0 ≤ u.1.toInt ∧ u.1.toInt ≤ 16)) (fun u => [(h, .inr (7, [.ref sl, .int na, .ref zs, .ref ln, .ref ir, .ref tk, .int su, .int le, .ref tb, .int fu, .int ap, .int pp, .ref tr, .int u.1, .ref fz, .int nm])), (sl, .inl (cI, 1653, .inl sf)), (tr, .inl (cI, 16, .inl u.2))]) 0 0 := by
  refine wm_i (cc := cX8_size13) (maxL := 2) (ret := (some .int)) (by decide) rfl (Nat.le_of_ble_eq_true rfl) ?_
  intro p e s m below meth c A ls hx hb hr hml hown hts hlocks hin hP hK hD hN hA hl hS
  have hown : s.vm.findClass RX8 = some m.cls := hown
  have hl : lv_has ls 2 [(0, .ref h), (1, .int v)] := hl
  change W p l e ({ frames := 2, cells := 0, slots := 0, locals := 42 }) s m ([.ref h, .int v] : List Value).toArray below meth c s.heap [] 0 0 (MQ below (va_Qi (fun (r : Int32) (u : Int32 × (Nat → Int32)) => (0 ≤ u.1.toInt ∧ u.1.toInt ≤ 16)) (fun u t => wb D A ((fun u => [(h, .inr (7, [.ref sl, .int na, .ref zs, .ref ln, .ref ir, .ref tk, .int su, .int le, .ref tb, .int fu, .int ap, .int pp, .ref tr, .int u.1, .ref fz, .int nm])), (sl, .inl (cI, 1653, .inl sf)), (tr, .inl (cI, 16, .inl u.2))]) u) t) A) ([.ref h, .int v] : List Value).toArray s 0 0 A) (F0 m 0 ls [])
  refine lv_aload_n hx hb dX8_size13_0 rfl (lv_at hl 0 rfl) ?_
  refine lv_bipush (v := 13) hx hb dX8_size13_1 (by decide) ?_
  have k_1 := (g_X8_begins l D cI cB cQ s.heap.size h sl zs ln ir tk tb tr fz na su le fu ap pp tc nm 13 trf (by omega) (by omega) (by omega) (by omega))
  refine wc_v (WC := [(h, .inr (7, [.ref sl, .int na, .ref zs, .ref ln, .ref ir, .ref tk, .int su, .int le, .ref tb, .int fu, .int ap, .int pp, .ref tr, .int tc, .ref fz, .int nm])), (tr, .inl (cI, 16, .inl trf))]) (WR := [(sl, .inl (cI, 1653, .inl sf))]) (va_runV (As := [.int 13]) (rest := []) ⟨hx, hb, hml, hown, hts⟩ k_1 (cwV 1 hts gX8_size13_X8_begins rfl rfl rfl (by decide +kernel) ⟨Nat.le_of_ble_eq_true rfl, Nat.le_of_ble_eq_true rfl⟩) (wp_V hP hK hD hN [0, 2] (by decide) rfl (ci := 7) rfl rfl) rfl rfl hl.1 rfl (lv_room (Nat.le_of_ble_eq_true rfl)) dX8_size13_3 ⟨Nat.le_of_ble_eq_true rfl, Nat.le_of_ble_eq_true rfl⟩) hP hD hS hA [0, 2] [1] rfl rfl (by decide) (by decide) (pe2 (fun v1_0 v1_1 H locs hw_1 hP hD hS => ?_))
  clear k_1
  have hP : va_P D kl [(sl, .inl (cI, 1653, .inl sf)), (h, .inr (7, [.ref sl, .int na, .ref zs, .ref ln, .ref ir, .ref tk, .int su, .int le, .ref tb, .int fu, .int ap, .int pp, .ref tr, .int v1_0, .ref fz, .int nm])), (tr, .inl (cI, 16, .inl v1_1))] H := hP
  have hD : va_D A [(sl, .inl (cI, 1653, .inl sf)), (h, .inr (7, [.ref sl, .int na, .ref zs, .ref ln, .ref ir, .ref tk, .int su, .int le, .ref tb, .int fu, .int ap, .int pp, .ref tr, .int v1_0, .ref fz, .int nm])), (tr, .inl (cI, 16, .inl v1_1))] := hD
  have c1_0 := hw_1
  have c1_0 : 0 ≤ v1_0.toInt ∧ v1_0.toInt ≤ 16 := c1_0
  refine lv_aload_n hx hb dX8_size13_6 rfl (lv_at hl 0 rfl) ?_
  refine lv_iload_n hx hb dX8_size13_7 rfl (lv_at hl 1 rfl) ?_
  have k_2 := (g_X8_size10 l D cI cB cQ H.size h sl zs ln ir tk tb tr fz na su le fu ap pp v1_0 nm v sf v1_1 v0 hsi (by omega) (by omega) (by omega) (by omega) (by omega))
  refine wc_i (WC := [(h, .inr (7, [.ref sl, .int na, .ref zs, .ref ln, .ref ir, .ref tk, .int su, .int le, .ref tb, .int fu, .int ap, .int pp, .ref tr, .int v1_0, .ref fz, .int nm])), (sl, .inl (cI, 1653, .inl sf)), (tr, .inl (cI, 16, .inl v1_1))]) (WR := []) (va_runV (As := [.int v]) (rest := []) ⟨hx, hb, hml, hown, hts⟩ k_2 (cwV 1 hts gX8_size13_X8_size10 rfl rfl rfl (by decide +kernel) ⟨Nat.le_of_ble_eq_true rfl, Nat.le_of_ble_eq_true rfl⟩) (wp_V hP hK hD hN [1, 0, 2] (by decide) rfl (ci := 7) rfl rfl) rfl rfl hl.1 rfl (lv_room (Nat.le_of_ble_eq_true rfl)) dX8_size13_8 ⟨Nat.le_of_ble_eq_true rfl, Nat.le_of_ble_eq_true rfl⟩) hP hD hS hA [1, 0, 2] [] rfl rfl (by decide) (by decide) (fun r_2 => pe2 (fun v2_0 v2_1 H locs hw_2 hP hD hS => ?_))
  clear k_2
  have hP : va_P D kl [(h, .inr (7, [.ref sl, .int na, .ref zs, .ref ln, .ref ir, .ref tk, .int su, .int le, .ref tb, .int fu, .int ap, .int pp, .ref tr, .int v2_0, .ref fz, .int nm])), (sl, .inl (cI, 1653, .inl sf)), (tr, .inl (cI, 16, .inl v2_1))] H := hP
  have hD : va_D A [(h, .inr (7, [.ref sl, .int na, .ref zs, .ref ln, .ref ir, .ref tk, .int su, .int le, .ref tb, .int fu, .int ap, .int pp, .ref tr, .int v2_0, .ref fz, .int nm])), (sl, .inl (cI, 1653, .inl sf)), (tr, .inl (cI, 16, .inl v2_1))] := hD
  have c2_0 := hw_2
  have c2_0 : 0 ≤ v2_0.toInt ∧ v2_0.toInt ≤ 16 := c2_0
  refine lv_bipush (v := 100) hx hb dX8_size13_11 (by decide) ?_
  refine lv_isub hx hb dX8_size13_13 ?_
  refine lv_topi (fun x_3 ex_3 => ?_)
  clear ex_3
  exact wr_i (v := x_3) hx hb hr hlocks hS (v2_0, v2_1) (by exact show 0 ≤ (v2_0 : Int32).toInt ∧ (v2_0 : Int32).toInt ≤ 16 from by omega) (hP.sub [0, 1, 2] rfl) (hD.sub [0, 1, 2] (by decide) rfl) dX8_size13_14
set_option maxHeartbeats 4000000 in
set_option maxRecDepth 100000 in
theorem g_X8_sizeOf (l : Launch) (D : va_G) (cI cB cQ : ClassId) (sz : Nat) (h : Nat) (sl : Nat) (zs : Nat) (ln : Nat) (ir : Nat) (tk : Nat) (tb : Nat) (tr : Nat) (fz : Nat) (na : Int32) (su : Int32) (le : Int32) (fu : Int32) (ap : Int32) (pp : Int32) (tc : Int32) (nm : Int32) (v : Int32) (sf : Nat → Int32) (trf : Nat → Int32) (v0 : Int) (hsi : SI sf v0) (h_na : 0 ≤ na.toInt ∧ na.toInt ≤ 24) (h_le : 0 ≤ le.toInt ∧ le.toInt ≤ 120) (h_ap : 0 ≤ ap.toInt ∧ ap.toInt ≤ 120) (h_tc : 0 ≤ tc.toInt ∧ tc.toInt ≤ 16) (h_v : 0 ≤ v.toInt ∧ v.toInt ≤ 2) : mi l yX8_sizeOf wsX8_sizeOf ({ frames := 5, cells := 0, slots := 0, locals := 109 }) D cI cB cQ [.ref h, .int v] sz [(h, .inr (7, [.ref sl, .int na, .ref zs, .ref ln, .ref ir, .ref tk, .int su, .int le, .ref tb, .int fu, .int ap, .int pp, .ref tr, .int tc, .ref fz, .int nm])), (sl, .inl (cI, 1653, .inl sf)), (tr, .inl (cI, 16, .inl trf))] (fun (r : Int32) (u : Int32 × (Nat → Int32)) => (0 ≤ u.1.toInt ∧ u.1.toInt ≤ 16)) (fun u => [(h, .inr (7, [.ref sl, .int na, .ref zs, .ref ln, .ref ir, .ref tk, .int su, .int le, .ref tb, .int fu, .int ap, .int pp, .ref tr, .int u.1, .ref fz, .int nm])), (sl, .inl (cI, 1653, .inl sf)), (tr, .inl (cI, 16, .inl u.2))]) 0 0 := by
  refine wm_i (cc := cX8_sizeOf) (maxL := 3) (ret := (some .int)) (by decide) rfl (Nat.le_of_ble_eq_true rfl) ?_
  intro p e s m below meth c A ls hx hb hr hml hown hts hlocks hin hP hK hD hN hA hl hS
  have hown : s.vm.findClass RX8 = some m.cls := hown
  have hl : lv_has ls 3 [(0, .ref h), (1, .int v)] := hl
  change W p l e ({ frames := 5, cells := 0, slots := 0, locals := 109 }) s m ([.ref h, .int v] : List Value).toArray below meth c s.heap [] 0 0 (MQ below (va_Qi (fun (r : Int32) (u : Int32 × (Nat → Int32)) => (0 ≤ u.1.toInt ∧ u.1.toInt ≤ 16)) (fun u t => wb D A ((fun u => [(h, .inr (7, [.ref sl, .int na, .ref zs, .ref ln, .ref ir, .ref tk, .int su, .int le, .ref tb, .int fu, .int ap, .int pp, .ref tr, .int u.1, .ref fz, .int nm])), (sl, .inl (cI, 1653, .inl sf)), (tr, .inl (cI, 16, .inl u.2))]) u) t) A) ([.ref h, .int v] : List Value).toArray s 0 0 A) (F0 m 0 ls [])
  refine lv_aload_n hx hb dX8_sizeOf_0 rfl (lv_at hl 0 rfl) ?_
  refine va_get (D := D) (ci := 7) (v := .ref sl) (C := RX8) (T := TX8) (N := 16) hx hb hts (fun _ h => List.mem_cons_of_mem _ (List.mem_append_right _ h)) hown hK hP 0 rfl rfl 0 (by decide) (hts (.fieldLink RX8 7 "WinterWalkModel" "slot" "[I") (List.mem_of_getElem? (i := 1) rfl)) (fun _ h9 => h9) rfl dX8_sizeOf_1 ?_
  refine lv_bipush (v := 20) hx hb dX8_sizeOf_4 (by decide) ?_
  refine lv_iload_n hx hb dX8_sizeOf_6 rfl (lv_at hl 1 rfl) ?_
  refine lv_iadd hx hb dX8_sizeOf_7 ?_
  refine lv_topi (fun x_1 ex_1 => ?_)
  have e_1 : x_1.toInt = 20 + v.toInt := by rw [ex_1]; exact zi_add (by decide) (rfl) (by omega) (by omega)
  clear ex_1
  refine va_iald hx hb hK hP 1 0 rfl rfl (zi_in (by omega) (by omega)) dX8_sizeOf_8 ?_
  refine lv_topi (fun x_2 ex_2 => ?_)
  clear ex_2
  refine lv_istore_n (lv' := [(2, .int x_2), (0, .ref h), (1, .int v)]) hx hb dX8_sizeOf_9 rfl hl (by decide) rfl (fun ls hl => ?_)
  refine lv_iload_n hx hb dX8_sizeOf_10 rfl (lv_at hl 0 rfl) ?_
  refine lv_iconst (v := 1) hx hb dX8_sizeOf_11 (by decide) ?_
  refine lv_icmp_eq (tgt := 20) hx hb dX8_sizeOf_12 (by decide) (fun c_3 => ?_) (fun c_3 => ?_)
  · have f_3 : x_2.toInt = 1 := zi_eq c_3
    refine lv_aload_n hx hb dX8_sizeOf_20 rfl (lv_at hl 1 rfl) ?_
    refine lv_iload_n hx hb dX8_sizeOf_21 rfl (lv_at hl 2 rfl) ?_
    have k_4 := (g_X8_size11 l D cI cB cQ s.heap.size h sl zs ln ir tk tb tr fz na su le fu ap pp tc nm v sf trf v0 hsi (by omega) (by omega) (by omega) (by omega) (by omega))
    refine wc_i (WC := [(h, .inr (7, [.ref sl, .int na, .ref zs, .ref ln, .ref ir, .ref tk, .int su, .int le, .ref tb, .int fu, .int ap, .int pp, .ref tr, .int tc, .ref fz, .int nm])), (sl, .inl (cI, 1653, .inl sf)), (tr, .inl (cI, 16, .inl trf))]) (WR := []) (va_runV (As := [.int v]) (rest := []) ⟨hx, hb, hml, hown, hts⟩ k_4 (cwV 1 hts gX8_sizeOf_X8_size11 rfl rfl rfl (by decide +kernel) ⟨Nat.le_of_ble_eq_true rfl, Nat.le_of_ble_eq_true rfl⟩) (wp_V hP hK hD hN [0, 1, 2] (by decide) rfl (ci := 7) rfl rfl) rfl rfl hl.1 rfl (lv_room (Nat.le_of_ble_eq_true rfl)) dX8_sizeOf_22 ⟨Nat.le_of_ble_eq_true rfl, Nat.le_of_ble_eq_true rfl⟩) hP hD hS hA [0, 1, 2] [] rfl rfl (by decide) (by decide) (fun r_4 => pe2 (fun v4_0 v4_1 H locs hw_4 hP hD hS => ?_))
    clear k_4
    have hP : va_P D kl [(h, .inr (7, [.ref sl, .int na, .ref zs, .ref ln, .ref ir, .ref tk, .int su, .int le, .ref tb, .int fu, .int ap, .int pp, .ref tr, .int v4_0, .ref fz, .int nm])), (sl, .inl (cI, 1653, .inl sf)), (tr, .inl (cI, 16, .inl v4_1))] H := hP
    have hD : va_D A [(h, .inr (7, [.ref sl, .int na, .ref zs, .ref ln, .ref ir, .ref tk, .int su, .int le, .ref tb, .int fu, .int ap, .int pp, .ref tr, .int v4_0, .ref fz, .int nm])), (sl, .inl (cI, 1653, .inl sf)), (tr, .inl (cI, 16, .inl v4_1))] := hD
    have c4_0 := hw_4
    have c4_0 : 0 ≤ v4_0.toInt ∧ v4_0.toInt ≤ 16 := c4_0
    exact wr_i (v := r_4) hx hb hr hlocks hS (v4_0, v4_1) (by exact show 0 ≤ (v4_0 : Int32).toInt ∧ (v4_0 : Int32).toInt ≤ 16 from by omega) (hP.sub [0, 1, 2] rfl) (hD.sub [0, 1, 2] (by decide) rfl) dX8_sizeOf_25
  · have f_3 : ¬ x_2.toInt = 1 := zi_ne c_3
    refine lv_iload_n hx hb dX8_sizeOf_15 rfl (lv_at hl 0 rfl) ?_
    refine lv_iconst (v := 3) hx hb dX8_sizeOf_16 (by decide) ?_
    refine lv_icmp_ne (tgt := 26) hx hb dX8_sizeOf_17 (by decide) (fun c_5 => ?_) (fun c_5 => ?_)
    · have f_5 : ¬ x_2.toInt = 3 := zi_ne c_5
      refine lv_iload_n hx hb dX8_sizeOf_26 rfl (lv_at hl 0 rfl) ?_
      refine lv_iconst (v := 4) hx hb dX8_sizeOf_27 (by decide) ?_
      refine lv_icmp_ne (tgt := 37) hx hb dX8_sizeOf_28 (by decide) (fun c_6 => ?_) (fun c_6 => ?_)
      · have f_6 : ¬ x_2.toInt = 4 := zi_ne c_6
        refine lv_aload_n hx hb dX8_sizeOf_37 rfl (lv_at hl 1 rfl) ?_
        refine lv_iload_n hx hb dX8_sizeOf_38 rfl (lv_at hl 0 rfl) ?_
        refine lv_iconst (v := 2) hx hb dX8_sizeOf_39 (by decide) ?_
        refine lv_icmp_ne (tgt := 48) hx hb dX8_sizeOf_40 (by decide) (fun c_7 => ?_) (fun c_7 => ?_)
        · have f_7 : ¬ x_2.toInt = 2 := zi_ne c_7
          refine lv_bipush (v := 14) hx hb dX8_sizeOf_48 (by decide) ?_
          have k_8 := (g_X8_begins l D cI cB cQ s.heap.size h sl zs ln ir tk tb tr fz na su le fu ap pp tc nm 14 trf (by omega) (by omega) (by omega) (by omega))
          refine wc_v (WC := [(h, .inr (7, [.ref sl, .int na, .ref zs, .ref ln, .ref ir, .ref tk, .int su, .int le, .ref tb, .int fu, .int ap, .int pp, .ref tr, .int tc, .ref fz, .int nm])), (tr, .inl (cI, 16, .inl trf))]) (WR := [(sl, .inl (cI, 1653, .inl sf))]) (va_runV (As := [.int 14]) (rest := []) ⟨hx, hb, hml, hown, hts⟩ k_8 (cwV 1 hts gX8_sizeOf_X8_begins rfl rfl rfl (by decide +kernel) ⟨Nat.le_of_ble_eq_true rfl, Nat.le_of_ble_eq_true rfl⟩) (wp_V hP hK hD hN [0, 2] (by decide) rfl (ci := 7) rfl rfl) rfl rfl hl.1 rfl (lv_room (Nat.le_of_ble_eq_true rfl)) dX8_sizeOf_50 ⟨Nat.le_of_ble_eq_true rfl, Nat.le_of_ble_eq_true rfl⟩) hP hD hS hA [0, 2] [1] rfl rfl (by decide) (by decide) (pe2 (fun v8_0 v8_1 H locs hw_8 hP hD hS => ?_))
          clear k_8
          have hP : va_P D kl [(sl, .inl (cI, 1653, .inl sf)), (h, .inr (7, [.ref sl, .int na, .ref zs, .ref ln, .ref ir, .ref tk, .int su, .int le, .ref tb, .int fu, .int ap, .int pp, .ref tr, .int v8_0, .ref fz, .int nm])), (tr, .inl (cI, 16, .inl v8_1))] H := hP
          have hD : va_D A [(sl, .inl (cI, 1653, .inl sf)), (h, .inr (7, [.ref sl, .int na, .ref zs, .ref ln, .ref ir, .ref tk, .int su, .int le, .ref tb, .int fu, .int ap, .int pp, .ref tr, .int v8_0, .ref fz, .int nm])), (tr, .inl (cI, 16, .inl v8_1))] := hD
          have c8_0 := hw_8
          have c8_0 : 0 ≤ v8_0.toInt ∧ v8_0.toInt ≤ 16 := c8_0
          refine lv_iload_n hx hb dX8_sizeOf_53 rfl (lv_at hl 0 rfl) ?_
          refine lv_iconst (v := 2) hx hb dX8_sizeOf_54 (by decide) ?_
          refine lv_icmp_ne (tgt := 67) hx hb dX8_sizeOf_55 (by decide) (fun c_9 => ?_) (fun c_9 => ?_)
          · have f_9 : ¬ x_2.toInt = 2 := zi_ne c_9
            refine lv_iconst (v := 2) hx hb dX8_sizeOf_67 (by decide) ?_
            refine lv_aload_n hx hb dX8_sizeOf_68 rfl (lv_at hl 1 rfl) ?_
            refine lv_iload_n hx hb dX8_sizeOf_69 rfl (lv_at hl 2 rfl) ?_
            have k_10 := (g_X8_size13 l D cI cB cQ H.size h sl zs ln ir tk tb tr fz na su le fu ap pp v8_0 nm v sf v8_1 v0 hsi (by omega) (by omega) (by omega) (by omega) (by omega))
            refine wc_i (WC := [(h, .inr (7, [.ref sl, .int na, .ref zs, .ref ln, .ref ir, .ref tk, .int su, .int le, .ref tb, .int fu, .int ap, .int pp, .ref tr, .int v8_0, .ref fz, .int nm])), (sl, .inl (cI, 1653, .inl sf)), (tr, .inl (cI, 16, .inl v8_1))]) (WR := []) (va_runV (As := [.int v]) (rest := [.int 2]) ⟨hx, hb, hml, hown, hts⟩ k_10 (cwV 1 hts gX8_sizeOf_X8_size13 rfl rfl rfl (by decide +kernel) ⟨Nat.le_of_ble_eq_true rfl, Nat.le_of_ble_eq_true rfl⟩) (wp_V hP hK hD hN [1, 0, 2] (by decide) rfl (ci := 7) rfl rfl) rfl rfl hl.1 rfl (lv_room (Nat.le_of_ble_eq_true rfl)) dX8_sizeOf_70 ⟨Nat.le_of_ble_eq_true rfl, Nat.le_of_ble_eq_true rfl⟩) hP hD hS hA [1, 0, 2] [] rfl rfl (by decide) (by decide) (fun r_10 => pe2 (fun v10_0 v10_1 H locs hw_10 hP hD hS => ?_))
            clear k_10
            have hP : va_P D kl [(h, .inr (7, [.ref sl, .int na, .ref zs, .ref ln, .ref ir, .ref tk, .int su, .int le, .ref tb, .int fu, .int ap, .int pp, .ref tr, .int v10_0, .ref fz, .int nm])), (sl, .inl (cI, 1653, .inl sf)), (tr, .inl (cI, 16, .inl v10_1))] H := hP
            have hD : va_D A [(h, .inr (7, [.ref sl, .int na, .ref zs, .ref ln, .ref ir, .ref tk, .int su, .int le, .ref tb, .int fu, .int ap, .int pp, .ref tr, .int v10_0, .ref fz, .int nm])), (sl, .inl (cI, 1653, .inl sf)), (tr, .inl (cI, 16, .inl v10_1))] := hD
            have c10_0 := hw_10
            have c10_0 : 0 ≤ v10_0.toInt ∧ v10_0.toInt ≤ 16 := c10_0
            refine lv_imul hx hb dX8_sizeOf_73 ?_
            refine lv_topi (fun x_11 ex_11 => ?_)
            clear ex_11
            exact wr_i (v := x_11) hx hb hr hlocks hS (v10_0, v10_1) (by exact show 0 ≤ (v10_0 : Int32).toInt ∧ (v10_0 : Int32).toInt ≤ 16 from by omega) (hP.sub [0, 1, 2] rfl) (hD.sub [0, 1, 2] (by decide) rfl) dX8_sizeOf_74
          · have f_9 : x_2.toInt = 2 := zi_eq c_9
            refine lv_aload_n hx hb dX8_sizeOf_58 rfl (lv_at hl 1 rfl) ?_
            refine lv_iload_n hx hb dX8_sizeOf_59 rfl (lv_at hl 2 rfl) ?_
            have k_12 := (g_X8_size11 l D cI cB cQ H.size h sl zs ln ir tk tb tr fz na su le fu ap pp v8_0 nm v sf v8_1 v0 hsi (by omega) (by omega) (by omega) (by omega) (by omega))
            refine wc_i (WC := [(h, .inr (7, [.ref sl, .int na, .ref zs, .ref ln, .ref ir, .ref tk, .int su, .int le, .ref tb, .int fu, .int ap, .int pp, .ref tr, .int v8_0, .ref fz, .int nm])), (sl, .inl (cI, 1653, .inl sf)), (tr, .inl (cI, 16, .inl v8_1))]) (WR := []) (va_runV (As := [.int v]) (rest := []) ⟨hx, hb, hml, hown, hts⟩ k_12 (cwV 1 hts gX8_sizeOf_X8_size11 rfl rfl rfl (by decide +kernel) ⟨Nat.le_of_ble_eq_true rfl, Nat.le_of_ble_eq_true rfl⟩) (wp_V hP hK hD hN [1, 0, 2] (by decide) rfl (ci := 7) rfl rfl) rfl rfl hl.1 rfl (lv_room (Nat.le_of_ble_eq_true rfl)) dX8_sizeOf_60 ⟨Nat.le_of_ble_eq_true rfl, Nat.le_of_ble_eq_true rfl⟩) hP hD hS hA [1, 0, 2] [] rfl rfl (by decide) (by decide) (fun r_12 => pe2 (fun v12_0 v12_1 H locs hw_12 hP hD hS => ?_))
            clear k_12
            have hP : va_P D kl [(h, .inr (7, [.ref sl, .int na, .ref zs, .ref ln, .ref ir, .ref tk, .int su, .int le, .ref tb, .int fu, .int ap, .int pp, .ref tr, .int v12_0, .ref fz, .int nm])), (sl, .inl (cI, 1653, .inl sf)), (tr, .inl (cI, 16, .inl v12_1))] H := hP
            have hD : va_D A [(h, .inr (7, [.ref sl, .int na, .ref zs, .ref ln, .ref ir, .ref tk, .int su, .int le, .ref tb, .int fu, .int ap, .int pp, .ref tr, .int v12_0, .ref fz, .int nm])), (sl, .inl (cI, 1653, .inl sf)), (tr, .inl (cI, 16, .inl v12_1))] := hD
            have c12_0 := hw_12
            have c12_0 : 0 ≤ v12_0.toInt ∧ v12_0.toInt ≤ 16 := c12_0
            refine lv_ineg hx hb dX8_sizeOf_63 ?_
            refine lv_topi (fun x_13 ex_13 => ?_)
            clear ex_13
            refine lv_goto (tgt := 74) hx hb dX8_sizeOf_64 (by decide) ?_
            exact wr_i (v := x_13) hx hb hr hlocks hS (v12_0, v12_1) (by exact show 0 ≤ (v12_0 : Int32).toInt ∧ (v12_0 : Int32).toInt ≤ 16 from by omega) (hP.sub [0, 1, 2] rfl) (hD.sub [0, 1, 2] (by decide) rfl) dX8_sizeOf_74
        · have f_7 : x_2.toInt = 2 := zi_eq c_7
          refine lv_bipush (v := 12) hx hb dX8_sizeOf_43 (by decide) ?_
          refine lv_goto (tgt := 50) hx hb dX8_sizeOf_45 (by decide) ?_
          have k_14 := (g_X8_begins l D cI cB cQ s.heap.size h sl zs ln ir tk tb tr fz na su le fu ap pp tc nm 12 trf (by omega) (by omega) (by omega) (by omega))
          refine wc_v (WC := [(h, .inr (7, [.ref sl, .int na, .ref zs, .ref ln, .ref ir, .ref tk, .int su, .int le, .ref tb, .int fu, .int ap, .int pp, .ref tr, .int tc, .ref fz, .int nm])), (tr, .inl (cI, 16, .inl trf))]) (WR := [(sl, .inl (cI, 1653, .inl sf))]) (va_runV (As := [.int 12]) (rest := []) ⟨hx, hb, hml, hown, hts⟩ k_14 (cwV 1 hts gX8_sizeOf_X8_begins rfl rfl rfl (by decide +kernel) ⟨Nat.le_of_ble_eq_true rfl, Nat.le_of_ble_eq_true rfl⟩) (wp_V hP hK hD hN [0, 2] (by decide) rfl (ci := 7) rfl rfl) rfl rfl hl.1 rfl (lv_room (Nat.le_of_ble_eq_true rfl)) dX8_sizeOf_50 ⟨Nat.le_of_ble_eq_true rfl, Nat.le_of_ble_eq_true rfl⟩) hP hD hS hA [0, 2] [1] rfl rfl (by decide) (by decide) (pe2 (fun v14_0 v14_1 H locs hw_14 hP hD hS => ?_))
          clear k_14
          have hP : va_P D kl [(sl, .inl (cI, 1653, .inl sf)), (h, .inr (7, [.ref sl, .int na, .ref zs, .ref ln, .ref ir, .ref tk, .int su, .int le, .ref tb, .int fu, .int ap, .int pp, .ref tr, .int v14_0, .ref fz, .int nm])), (tr, .inl (cI, 16, .inl v14_1))] H := hP
          have hD : va_D A [(sl, .inl (cI, 1653, .inl sf)), (h, .inr (7, [.ref sl, .int na, .ref zs, .ref ln, .ref ir, .ref tk, .int su, .int le, .ref tb, .int fu, .int ap, .int pp, .ref tr, .int v14_0, .ref fz, .int nm])), (tr, .inl (cI, 16, .inl v14_1))] := hD
          have c14_0 := hw_14
          have c14_0 : 0 ≤ v14_0.toInt ∧ v14_0.toInt ≤ 16 := c14_0
          refine lv_iload_n hx hb dX8_sizeOf_53 rfl (lv_at hl 0 rfl) ?_
          refine lv_iconst (v := 2) hx hb dX8_sizeOf_54 (by decide) ?_
          refine lv_icmp_ne (tgt := 67) hx hb dX8_sizeOf_55 (by decide) (fun c_15 => ?_) (fun c_15 => ?_)
          · have f_15 : ¬ x_2.toInt = 2 := zi_ne c_15
            refine lv_iconst (v := 2) hx hb dX8_sizeOf_67 (by decide) ?_
            refine lv_aload_n hx hb dX8_sizeOf_68 rfl (lv_at hl 1 rfl) ?_
            refine lv_iload_n hx hb dX8_sizeOf_69 rfl (lv_at hl 2 rfl) ?_
            have k_16 := (g_X8_size13 l D cI cB cQ H.size h sl zs ln ir tk tb tr fz na su le fu ap pp v14_0 nm v sf v14_1 v0 hsi (by omega) (by omega) (by omega) (by omega) (by omega))
            refine wc_i (WC := [(h, .inr (7, [.ref sl, .int na, .ref zs, .ref ln, .ref ir, .ref tk, .int su, .int le, .ref tb, .int fu, .int ap, .int pp, .ref tr, .int v14_0, .ref fz, .int nm])), (sl, .inl (cI, 1653, .inl sf)), (tr, .inl (cI, 16, .inl v14_1))]) (WR := []) (va_runV (As := [.int v]) (rest := [.int 2]) ⟨hx, hb, hml, hown, hts⟩ k_16 (cwV 1 hts gX8_sizeOf_X8_size13 rfl rfl rfl (by decide +kernel) ⟨Nat.le_of_ble_eq_true rfl, Nat.le_of_ble_eq_true rfl⟩) (wp_V hP hK hD hN [1, 0, 2] (by decide) rfl (ci := 7) rfl rfl) rfl rfl hl.1 rfl (lv_room (Nat.le_of_ble_eq_true rfl)) dX8_sizeOf_70 ⟨Nat.le_of_ble_eq_true rfl, Nat.le_of_ble_eq_true rfl⟩) hP hD hS hA [1, 0, 2] [] rfl rfl (by decide) (by decide) (fun r_16 => pe2 (fun v16_0 v16_1 H locs hw_16 hP hD hS => ?_))
            clear k_16
            have hP : va_P D kl [(h, .inr (7, [.ref sl, .int na, .ref zs, .ref ln, .ref ir, .ref tk, .int su, .int le, .ref tb, .int fu, .int ap, .int pp, .ref tr, .int v16_0, .ref fz, .int nm])), (sl, .inl (cI, 1653, .inl sf)), (tr, .inl (cI, 16, .inl v16_1))] H := hP
            have hD : va_D A [(h, .inr (7, [.ref sl, .int na, .ref zs, .ref ln, .ref ir, .ref tk, .int su, .int le, .ref tb, .int fu, .int ap, .int pp, .ref tr, .int v16_0, .ref fz, .int nm])), (sl, .inl (cI, 1653, .inl sf)), (tr, .inl (cI, 16, .inl v16_1))] := hD
            have c16_0 := hw_16
            have c16_0 : 0 ≤ v16_0.toInt ∧ v16_0.toInt ≤ 16 := c16_0
            refine lv_imul hx hb dX8_sizeOf_73 ?_
            refine lv_topi (fun x_17 ex_17 => ?_)
            clear ex_17
            exact wr_i (v := x_17) hx hb hr hlocks hS (v16_0, v16_1) (by exact show 0 ≤ (v16_0 : Int32).toInt ∧ (v16_0 : Int32).toInt ≤ 16 from by omega) (hP.sub [0, 1, 2] rfl) (hD.sub [0, 1, 2] (by decide) rfl) dX8_sizeOf_74
          · have f_15 : x_2.toInt = 2 := zi_eq c_15
            refine lv_aload_n hx hb dX8_sizeOf_58 rfl (lv_at hl 1 rfl) ?_
            refine lv_iload_n hx hb dX8_sizeOf_59 rfl (lv_at hl 2 rfl) ?_
            have k_18 := (g_X8_size11 l D cI cB cQ H.size h sl zs ln ir tk tb tr fz na su le fu ap pp v14_0 nm v sf v14_1 v0 hsi (by omega) (by omega) (by omega) (by omega) (by omega))
            refine wc_i (WC := [(h, .inr (7, [.ref sl, .int na, .ref zs, .ref ln, .ref ir, .ref tk, .int su, .int le, .ref tb, .int fu, .int ap, .int pp, .ref tr, .int v14_0, .ref fz, .int nm])), (sl, .inl (cI, 1653, .inl sf)), (tr, .inl (cI, 16, .inl v14_1))]) (WR := []) (va_runV (As := [.int v]) (rest := []) ⟨hx, hb, hml, hown, hts⟩ k_18 (cwV 1 hts gX8_sizeOf_X8_size11 rfl rfl rfl (by decide +kernel) ⟨Nat.le_of_ble_eq_true rfl, Nat.le_of_ble_eq_true rfl⟩) (wp_V hP hK hD hN [1, 0, 2] (by decide) rfl (ci := 7) rfl rfl) rfl rfl hl.1 rfl (lv_room (Nat.le_of_ble_eq_true rfl)) dX8_sizeOf_60 ⟨Nat.le_of_ble_eq_true rfl, Nat.le_of_ble_eq_true rfl⟩) hP hD hS hA [1, 0, 2] [] rfl rfl (by decide) (by decide) (fun r_18 => pe2 (fun v18_0 v18_1 H locs hw_18 hP hD hS => ?_))
            clear k_18
            have hP : va_P D kl [(h, .inr (7, [.ref sl, .int na, .ref zs, .ref ln, .ref ir, .ref tk, .int su, .int le, .ref tb, .int fu, .int ap, .int pp, .ref tr, .int v18_0, .ref fz, .int nm])), (sl, .inl (cI, 1653, .inl sf)), (tr, .inl (cI, 16, .inl v18_1))] H := hP
            have hD : va_D A [(h, .inr (7, [.ref sl, .int na, .ref zs, .ref ln, .ref ir, .ref tk, .int su, .int le, .ref tb, .int fu, .int ap, .int pp, .ref tr, .int v18_0, .ref fz, .int nm])), (sl, .inl (cI, 1653, .inl sf)), (tr, .inl (cI, 16, .inl v18_1))] := hD
            have c18_0 := hw_18
            have c18_0 : 0 ≤ v18_0.toInt ∧ v18_0.toInt ≤ 16 := c18_0
            refine lv_ineg hx hb dX8_sizeOf_63 ?_
            refine lv_topi (fun x_19 ex_19 => ?_)
            clear ex_19
            refine lv_goto (tgt := 74) hx hb dX8_sizeOf_64 (by decide) ?_
            exact wr_i (v := x_19) hx hb hr hlocks hS (v18_0, v18_1) (by exact show 0 ≤ (v18_0 : Int32).toInt ∧ (v18_0 : Int32).toInt ≤ 16 from by omega) (hP.sub [0, 1, 2] rfl) (hD.sub [0, 1, 2] (by decide) rfl) dX8_sizeOf_74
      · have f_6 : x_2.toInt = 4 := zi_eq c_6
        refine lv_aload_n hx hb dX8_sizeOf_31 rfl (lv_at hl 1 rfl) ?_
        refine lv_iload_n hx hb dX8_sizeOf_32 rfl (lv_at hl 2 rfl) ?_
        have k_20 := (g_X8_size13 l D cI cB cQ s.heap.size h sl zs ln ir tk tb tr fz na su le fu ap pp tc nm v sf trf v0 hsi (by omega) (by omega) (by omega) (by omega) (by omega))
        refine wc_i (WC := [(h, .inr (7, [.ref sl, .int na, .ref zs, .ref ln, .ref ir, .ref tk, .int su, .int le, .ref tb, .int fu, .int ap, .int pp, .ref tr, .int tc, .ref fz, .int nm])), (sl, .inl (cI, 1653, .inl sf)), (tr, .inl (cI, 16, .inl trf))]) (WR := []) (va_runV (As := [.int v]) (rest := []) ⟨hx, hb, hml, hown, hts⟩ k_20 (cwV 1 hts gX8_sizeOf_X8_size13 rfl rfl rfl (by decide +kernel) ⟨Nat.le_of_ble_eq_true rfl, Nat.le_of_ble_eq_true rfl⟩) (wp_V hP hK hD hN [0, 1, 2] (by decide) rfl (ci := 7) rfl rfl) rfl rfl hl.1 rfl (lv_room (Nat.le_of_ble_eq_true rfl)) dX8_sizeOf_33 ⟨Nat.le_of_ble_eq_true rfl, Nat.le_of_ble_eq_true rfl⟩) hP hD hS hA [0, 1, 2] [] rfl rfl (by decide) (by decide) (fun r_20 => pe2 (fun v20_0 v20_1 H locs hw_20 hP hD hS => ?_))
        clear k_20
        have hP : va_P D kl [(h, .inr (7, [.ref sl, .int na, .ref zs, .ref ln, .ref ir, .ref tk, .int su, .int le, .ref tb, .int fu, .int ap, .int pp, .ref tr, .int v20_0, .ref fz, .int nm])), (sl, .inl (cI, 1653, .inl sf)), (tr, .inl (cI, 16, .inl v20_1))] H := hP
        have hD : va_D A [(h, .inr (7, [.ref sl, .int na, .ref zs, .ref ln, .ref ir, .ref tk, .int su, .int le, .ref tb, .int fu, .int ap, .int pp, .ref tr, .int v20_0, .ref fz, .int nm])), (sl, .inl (cI, 1653, .inl sf)), (tr, .inl (cI, 16, .inl v20_1))] := hD
        have c20_0 := hw_20
        have c20_0 : 0 ≤ v20_0.toInt ∧ v20_0.toInt ≤ 16 := c20_0
        exact wr_i (v := r_20) hx hb hr hlocks hS (v20_0, v20_1) (by exact show 0 ≤ (v20_0 : Int32).toInt ∧ (v20_0 : Int32).toInt ≤ 16 from by omega) (hP.sub [0, 1, 2] rfl) (hD.sub [0, 1, 2] (by decide) rfl) dX8_sizeOf_36
    · have f_5 : x_2.toInt = 3 := zi_eq c_5
      refine lv_aload_n hx hb dX8_sizeOf_20 rfl (lv_at hl 1 rfl) ?_
      refine lv_iload_n hx hb dX8_sizeOf_21 rfl (lv_at hl 2 rfl) ?_
      have k_21 := (g_X8_size11 l D cI cB cQ s.heap.size h sl zs ln ir tk tb tr fz na su le fu ap pp tc nm v sf trf v0 hsi (by omega) (by omega) (by omega) (by omega) (by omega))
      refine wc_i (WC := [(h, .inr (7, [.ref sl, .int na, .ref zs, .ref ln, .ref ir, .ref tk, .int su, .int le, .ref tb, .int fu, .int ap, .int pp, .ref tr, .int tc, .ref fz, .int nm])), (sl, .inl (cI, 1653, .inl sf)), (tr, .inl (cI, 16, .inl trf))]) (WR := []) (va_runV (As := [.int v]) (rest := []) ⟨hx, hb, hml, hown, hts⟩ k_21 (cwV 1 hts gX8_sizeOf_X8_size11 rfl rfl rfl (by decide +kernel) ⟨Nat.le_of_ble_eq_true rfl, Nat.le_of_ble_eq_true rfl⟩) (wp_V hP hK hD hN [0, 1, 2] (by decide) rfl (ci := 7) rfl rfl) rfl rfl hl.1 rfl (lv_room (Nat.le_of_ble_eq_true rfl)) dX8_sizeOf_22 ⟨Nat.le_of_ble_eq_true rfl, Nat.le_of_ble_eq_true rfl⟩) hP hD hS hA [0, 1, 2] [] rfl rfl (by decide) (by decide) (fun r_21 => pe2 (fun v21_0 v21_1 H locs hw_21 hP hD hS => ?_))
      clear k_21
      have hP : va_P D kl [(h, .inr (7, [.ref sl, .int na, .ref zs, .ref ln, .ref ir, .ref tk, .int su, .int le, .ref tb, .int fu, .int ap, .int pp, .ref tr, .int v21_0, .ref fz, .int nm])), (sl, .inl (cI, 1653, .inl sf)), (tr, .inl (cI, 16, .inl v21_1))] H := hP
      have hD : va_D A [(h, .inr (7, [.ref sl, .int na, .ref zs, .ref ln, .ref ir, .ref tk, .int su, .int le, .ref tb, .int fu, .int ap, .int pp, .ref tr, .int v21_0, .ref fz, .int nm])), (sl, .inl (cI, 1653, .inl sf)), (tr, .inl (cI, 16, .inl v21_1))] := hD
      have c21_0 := hw_21
      have c21_0 : 0 ≤ v21_0.toInt ∧ v21_0.toInt ≤ 16 := c21_0
      exact wr_i (v := r_21) hx hb hr hlocks hS (v21_0, v21_1) (by exact show 0 ≤ (v21_0 : Int32).toInt ∧ (v21_0 : Int32).toInt ≤ 16 from by omega) (hP.sub [0, 1, 2] rfl) (hD.sub [0, 1, 2] (by decide) rfl) dX8_sizeOf_25
set_option maxHeartbeats 4000000 in
set_option maxRecDepth 100000 in
theorem g_X8_markOf (l : Launch) (D : va_G) (cI cB cQ : ClassId) (sz : Nat) (h : Nat) (sl : Nat) (zs : Nat) (ln : Nat) (ir : Nat) (tk : Nat) (tb : Nat) (tr : Nat) (fz : Nat) (na : Int32) (su : Int32) (le : Int32) (fu : Int32) (ap : Int32) (pp : Int32) (tc : Int32) (nm : Int32) (v : Int32) (sf : Nat → Int32) (trf : Nat → Int32) (v0 : Int) (hsi : SI sf v0) (h_na : 0 ≤ na.toInt ∧ na.toInt ≤ 24) (h_le : 0 ≤ le.toInt ∧ le.toInt ≤ 120) (h_ap : 0 ≤ ap.toInt ∧ ap.toInt ≤ 120) (h_tc : 0 ≤ tc.toInt ∧ tc.toInt ≤ 16) (h_v : 0 ≤ v.toInt ∧ v.toInt ≤ 2) : mi l yX8_markOf wsX8_markOf ({ frames := 6, cells := 0, slots := 0, locals := 131 }) D cI cB cQ [.ref h, .int v] sz [(h, .inr (7, [.ref sl, .int na, .ref zs, .ref ln, .ref ir, .ref tk, .int su, .int le, .ref tb, .int fu, .int ap, .int pp, .ref tr, .int tc, .ref fz, .int nm])), (sl, .inl (cI, 1653, .inl sf)), (tr, .inl (cI, 16, .inl trf))] (fun (r : Int32) (u : Int32 × (Nat → Int32)) => (0 ≤ u.1.toInt ∧ u.1.toInt ≤ 16)) (fun u => [(h, .inr (7, [.ref sl, .int na, .ref zs, .ref ln, .ref ir, .ref tk, .int su, .int le, .ref tb, .int fu, .int ap, .int pp, .ref tr, .int u.1, .ref fz, .int nm])), (sl, .inl (cI, 1653, .inl sf)), (tr, .inl (cI, 16, .inl u.2))]) 0 0 := by
  refine wm_i (cc := cX8_markOf) (maxL := 3) (ret := (some .int)) (by decide) rfl (Nat.le_of_ble_eq_true rfl) ?_
  intro p e s m below meth c A ls hx hb hr hml hown hts hlocks hin hP hK hD hN hA hl hS
  have hown : s.vm.findClass RX8 = some m.cls := hown
  have hl : lv_has ls 3 [(0, .ref h), (1, .int v)] := hl
  change W p l e ({ frames := 6, cells := 0, slots := 0, locals := 131 }) s m ([.ref h, .int v] : List Value).toArray below meth c s.heap [] 0 0 (MQ below (va_Qi (fun (r : Int32) (u : Int32 × (Nat → Int32)) => (0 ≤ u.1.toInt ∧ u.1.toInt ≤ 16)) (fun u t => wb D A ((fun u => [(h, .inr (7, [.ref sl, .int na, .ref zs, .ref ln, .ref ir, .ref tk, .int su, .int le, .ref tb, .int fu, .int ap, .int pp, .ref tr, .int u.1, .ref fz, .int nm])), (sl, .inl (cI, 1653, .inl sf)), (tr, .inl (cI, 16, .inl u.2))]) u) t) A) ([.ref h, .int v] : List Value).toArray s 0 0 A) (F0 m 0 ls [])
  refine lv_aload_n hx hb dX8_markOf_0 rfl (lv_at hl 0 rfl) ?_
  refine va_get (D := D) (ci := 7) (v := .ref sl) (C := RX8) (T := TX8) (N := 16) hx hb hts (fun _ h => List.mem_cons_of_mem _ (List.mem_append_right _ h)) hown hK hP 0 rfl rfl 0 (by decide) (hts (.fieldLink RX8 7 "WinterWalkModel" "slot" "[I") (List.mem_of_getElem? (i := 1) rfl)) (fun _ h9 => h9) rfl dX8_markOf_1 ?_
  refine lv_bipush (v := 20) hx hb dX8_markOf_4 (by decide) ?_
  refine lv_iload_n hx hb dX8_markOf_6 rfl (lv_at hl 1 rfl) ?_
  refine lv_iadd hx hb dX8_markOf_7 ?_
  refine lv_topi (fun x_1 ex_1 => ?_)
  have e_1 : x_1.toInt = 20 + v.toInt := by rw [ex_1]; exact zi_add (by decide) (rfl) (by omega) (by omega)
  clear ex_1
  refine va_iald hx hb hK hP 1 0 rfl rfl (zi_in (by omega) (by omega)) dX8_markOf_8 ?_
  refine lv_topi (fun x_2 ex_2 => ?_)
  clear ex_2
  refine lv_iconst (v := 4) hx hb dX8_markOf_9 (by decide) ?_
  refine lv_icmp_ge (tgt := 19) hx hb dX8_markOf_10 (by decide) (fun c_3 => ?_) (fun c_3 => ?_)
  · have f_3 : 4 ≤ x_2.toInt := zi_le c_3
    refine lv_aload_n hx hb dX8_markOf_19 rfl (lv_at hl 0 rfl) ?_
    refine lv_bipush (v := 23) hx hb dX8_markOf_20 (by decide) ?_
    have k_4 := (g_X8_begins l D cI cB cQ s.heap.size h sl zs ln ir tk tb tr fz na su le fu ap pp tc nm 23 trf (by omega) (by omega) (by omega) (by omega))
    refine wc_v (WC := [(h, .inr (7, [.ref sl, .int na, .ref zs, .ref ln, .ref ir, .ref tk, .int su, .int le, .ref tb, .int fu, .int ap, .int pp, .ref tr, .int tc, .ref fz, .int nm])), (tr, .inl (cI, 16, .inl trf))]) (WR := [(sl, .inl (cI, 1653, .inl sf))]) (va_runV (As := [.int 23]) (rest := []) ⟨hx, hb, hml, hown, hts⟩ k_4 (cwV 1 hts gX8_markOf_X8_begins rfl rfl rfl (by decide +kernel) ⟨Nat.le_of_ble_eq_true rfl, Nat.le_of_ble_eq_true rfl⟩) (wp_V hP hK hD hN [0, 2] (by decide) rfl (ci := 7) rfl rfl) rfl rfl hl.1 rfl (lv_room (Nat.le_of_ble_eq_true rfl)) dX8_markOf_22 ⟨Nat.le_of_ble_eq_true rfl, Nat.le_of_ble_eq_true rfl⟩) hP hD hS hA [0, 2] [1] rfl rfl (by decide) (by decide) (pe2 (fun v4_0 v4_1 H locs hw_4 hP hD hS => ?_))
    clear k_4
    have hP : va_P D kl [(sl, .inl (cI, 1653, .inl sf)), (h, .inr (7, [.ref sl, .int na, .ref zs, .ref ln, .ref ir, .ref tk, .int su, .int le, .ref tb, .int fu, .int ap, .int pp, .ref tr, .int v4_0, .ref fz, .int nm])), (tr, .inl (cI, 16, .inl v4_1))] H := hP
    have hD : va_D A [(sl, .inl (cI, 1653, .inl sf)), (h, .inr (7, [.ref sl, .int na, .ref zs, .ref ln, .ref ir, .ref tk, .int su, .int le, .ref tb, .int fu, .int ap, .int pp, .ref tr, .int v4_0, .ref fz, .int nm])), (tr, .inl (cI, 16, .inl v4_1))] := hD
    have c4_0 := hw_4
    have c4_0 : 0 ≤ v4_0.toInt ∧ v4_0.toInt ≤ 16 := c4_0
    refine lv_aload_n hx hb dX8_markOf_25 rfl (lv_at hl 0 rfl) ?_
    refine lv_iload_n hx hb dX8_markOf_26 rfl (lv_at hl 1 rfl) ?_
    have k_5 := (g_X8_mark20 l D cI cB cQ H.size h sl zs ln ir tk tb tr fz na su le fu ap pp v4_0 nm v sf v4_1 v0 hsi (by omega) (by omega) (by omega) (by omega) (by omega))
    refine wc_i (WC := [(h, .inr (7, [.ref sl, .int na, .ref zs, .ref ln, .ref ir, .ref tk, .int su, .int le, .ref tb, .int fu, .int ap, .int pp, .ref tr, .int v4_0, .ref fz, .int nm])), (sl, .inl (cI, 1653, .inl sf)), (tr, .inl (cI, 16, .inl v4_1))]) (WR := []) (va_runV (As := [.int v]) (rest := []) ⟨hx, hb, hml, hown, hts⟩ k_5 (cwV 1 hts gX8_markOf_X8_mark20 rfl rfl rfl (by decide +kernel) ⟨Nat.le_of_ble_eq_true rfl, Nat.le_of_ble_eq_true rfl⟩) (wp_V hP hK hD hN [1, 0, 2] (by decide) rfl (ci := 7) rfl rfl) rfl rfl hl.1 rfl (lv_room (Nat.le_of_ble_eq_true rfl)) dX8_markOf_27 ⟨Nat.le_of_ble_eq_true rfl, Nat.le_of_ble_eq_true rfl⟩) hP hD hS hA [1, 0, 2] [] rfl rfl (by decide) (by decide) (fun r_5 => pe2 (fun v5_0 v5_1 H locs hw_5 hP hD hS => ?_))
    clear k_5
    have hP : va_P D kl [(h, .inr (7, [.ref sl, .int na, .ref zs, .ref ln, .ref ir, .ref tk, .int su, .int le, .ref tb, .int fu, .int ap, .int pp, .ref tr, .int v5_0, .ref fz, .int nm])), (sl, .inl (cI, 1653, .inl sf)), (tr, .inl (cI, 16, .inl v5_1))] H := hP
    have hD : va_D A [(h, .inr (7, [.ref sl, .int na, .ref zs, .ref ln, .ref ir, .ref tk, .int su, .int le, .ref tb, .int fu, .int ap, .int pp, .ref tr, .int v5_0, .ref fz, .int nm])), (sl, .inl (cI, 1653, .inl sf)), (tr, .inl (cI, 16, .inl v5_1))] := hD
    have c5_0 := hw_5
    have c5_0 : 0 ≤ v5_0.toInt ∧ v5_0.toInt ≤ 16 := c5_0
    refine lv_istore_n (lv' := [(2, .int r_5), (0, .ref h), (1, .int v)]) hx hb dX8_markOf_30 rfl hl (by decide) rfl (fun ls hl => ?_)
    refine lv_iload_n hx hb dX8_markOf_31 rfl (lv_at hl 0 rfl) ?_
    refine lv_aload_n hx hb dX8_markOf_32 rfl (lv_at hl 1 rfl) ?_
    refine lv_iload_n hx hb dX8_markOf_33 rfl (lv_at hl 2 rfl) ?_
    have k_6 := (g_X8_sizeOf l D cI cB cQ H.size h sl zs ln ir tk tb tr fz na su le fu ap pp v5_0 nm v sf v5_1 v0 hsi (by omega) (by omega) (by omega) (by omega) (by omega))
    refine wc_i (WC := [(h, .inr (7, [.ref sl, .int na, .ref zs, .ref ln, .ref ir, .ref tk, .int su, .int le, .ref tb, .int fu, .int ap, .int pp, .ref tr, .int v5_0, .ref fz, .int nm])), (sl, .inl (cI, 1653, .inl sf)), (tr, .inl (cI, 16, .inl v5_1))]) (WR := []) (va_runV (As := [.int v]) (rest := [.int r_5]) ⟨hx, hb, hml, hown, hts⟩ k_6 (cwV 1 hts gX8_markOf_X8_sizeOf rfl rfl rfl (by decide +kernel) ⟨Nat.le_of_ble_eq_true rfl, Nat.le_of_ble_eq_true rfl⟩) (wp_V hP hK hD hN [0, 1, 2] (by decide) rfl (ci := 7) rfl rfl) rfl rfl hl.1 rfl (lv_room (Nat.le_of_ble_eq_true rfl)) dX8_markOf_34 ⟨Nat.le_of_ble_eq_true rfl, Nat.le_of_ble_eq_true rfl⟩) hP hD hS hA [0, 1, 2] [] rfl rfl (by decide) (by decide) (fun r_6 => pe2 (fun v6_0 v6_1 H locs hw_6 hP hD hS => ?_))
    clear k_6
    have hP : va_P D kl [(h, .inr (7, [.ref sl, .int na, .ref zs, .ref ln, .ref ir, .ref tk, .int su, .int le, .ref tb, .int fu, .int ap, .int pp, .ref tr, .int v6_0, .ref fz, .int nm])), (sl, .inl (cI, 1653, .inl sf)), (tr, .inl (cI, 16, .inl v6_1))] H := hP
    have hD : va_D A [(h, .inr (7, [.ref sl, .int na, .ref zs, .ref ln, .ref ir, .ref tk, .int su, .int le, .ref tb, .int fu, .int ap, .int pp, .ref tr, .int v6_0, .ref fz, .int nm])), (sl, .inl (cI, 1653, .inl sf)), (tr, .inl (cI, 16, .inl v6_1))] := hD
    have c6_0 := hw_6
    have c6_0 : 0 ≤ v6_0.toInt ∧ v6_0.toInt ≤ 16 := c6_0
    refine lv_isub hx hb dX8_markOf_37 ?_
    refine lv_topi (fun x_7 ex_7 => ?_)
    clear ex_7
    exact wr_i (v := x_7) hx hb hr hlocks hS (v6_0, v6_1) (by exact show 0 ≤ (v6_0 : Int32).toInt ∧ (v6_0 : Int32).toInt ≤ 16 from by omega) (hP.sub [0, 1, 2] rfl) (hD.sub [0, 1, 2] (by decide) rfl) dX8_markOf_38
  · have f_3 : ¬ 4 ≤ x_2.toInt := zi_nle c_3
    refine lv_aload_n hx hb dX8_markOf_13 rfl (lv_at hl 0 rfl) ?_
    refine lv_iload_n hx hb dX8_markOf_14 rfl (lv_at hl 1 rfl) ?_
    have k_8 := (g_X8_markOld l D cI cB cQ s.heap.size h sl zs ln ir tk tb tr fz na su le fu ap pp tc nm v sf trf v0 hsi (by omega) (by omega) (by omega) (by omega) (by omega))
    refine wc_i (WC := [(h, .inr (7, [.ref sl, .int na, .ref zs, .ref ln, .ref ir, .ref tk, .int su, .int le, .ref tb, .int fu, .int ap, .int pp, .ref tr, .int tc, .ref fz, .int nm])), (sl, .inl (cI, 1653, .inl sf)), (tr, .inl (cI, 16, .inl trf))]) (WR := []) (va_runV (As := [.int v]) (rest := []) ⟨hx, hb, hml, hown, hts⟩ k_8 (cwV 1 hts gX8_markOf_X8_markOld rfl rfl rfl (by decide +kernel) ⟨Nat.le_of_ble_eq_true rfl, Nat.le_of_ble_eq_true rfl⟩) (wp_V hP hK hD hN [0, 1, 2] (by decide) rfl (ci := 7) rfl rfl) rfl rfl hl.1 rfl (lv_room (Nat.le_of_ble_eq_true rfl)) dX8_markOf_15 ⟨Nat.le_of_ble_eq_true rfl, Nat.le_of_ble_eq_true rfl⟩) hP hD hS hA [0, 1, 2] [] rfl rfl (by decide) (by decide) (fun r_8 => pe2 (fun v8_0 v8_1 H locs hw_8 hP hD hS => ?_))
    clear k_8
    have hP : va_P D kl [(h, .inr (7, [.ref sl, .int na, .ref zs, .ref ln, .ref ir, .ref tk, .int su, .int le, .ref tb, .int fu, .int ap, .int pp, .ref tr, .int v8_0, .ref fz, .int nm])), (sl, .inl (cI, 1653, .inl sf)), (tr, .inl (cI, 16, .inl v8_1))] H := hP
    have hD : va_D A [(h, .inr (7, [.ref sl, .int na, .ref zs, .ref ln, .ref ir, .ref tk, .int su, .int le, .ref tb, .int fu, .int ap, .int pp, .ref tr, .int v8_0, .ref fz, .int nm])), (sl, .inl (cI, 1653, .inl sf)), (tr, .inl (cI, 16, .inl v8_1))] := hD
    have c8_0 := hw_8
    have c8_0 : 0 ≤ v8_0.toInt ∧ v8_0.toInt ≤ 16 := c8_0
    exact wr_i (v := r_8) hx hb hr hlocks hS (v8_0, v8_1) (by exact show 0 ≤ (v8_0 : Int32).toInt ∧ (v8_0 : Int32).toInt ≤ 16 from by omega) (hP.sub [0, 1, 2] rfl) (hD.sub [0, 1, 2] (by decide) rfl) dX8_markOf_18
set_option maxHeartbeats 4000000 in
set_option maxRecDepth 100000 in
theorem g_X8_ask (l : Launch) (D : va_G) (cI cB cQ : ClassId) (sz : Nat) (h : Nat) (sl : Nat) (zs : Nat) (ln : Nat) (ir : Nat) (tk : Nat) (tb : Nat) (tr : Nat) (fz : Nat) (na : Int32) (su : Int32) (le : Int32) (fu : Int32) (ap : Int32) (pp : Int32) (tc : Int32) (nm : Int32) (v : Int32) (k : Int32) (sf : Nat → Int32) (trf : Nat → Int32) (v0 : Int) (hsi : SI sf v0) (h_na : 0 ≤ na.toInt ∧ na.toInt ≤ 24) (h_le : 0 ≤ le.toInt ∧ le.toInt ≤ 120) (h_ap : 0 ≤ ap.toInt ∧ ap.toInt ≤ 120) (h_tc : 0 ≤ tc.toInt ∧ tc.toInt ≤ 16) : mi l yX8_ask wsX8_ask ({ frames := 7, cells := 0, slots := 0, locals := 153 }) D cI cB cQ [.ref h, .int v, .int k] sz [(h, .inr (7, [.ref sl, .int na, .ref zs, .ref ln, .ref ir, .ref tk, .int su, .int le, .ref tb, .int fu, .int ap, .int pp, .ref tr, .int tc, .ref fz, .int nm])), (sl, .inl (cI, 1653, .inl sf)), (tr, .inl (cI, 16, .inl trf))] (fun (r : Int32) (u : Int32 × (Nat → Int32)) => (0 ≤ u.1.toInt ∧ u.1.toInt ≤ 16)) (fun u => [(h, .inr (7, [.ref sl, .int na, .ref zs, .ref ln, .ref ir, .ref tk, .int su, .int le, .ref tb, .int fu, .int ap, .int pp, .ref tr, .int u.1, .ref fz, .int nm])), (sl, .inl (cI, 1653, .inl sf)), (tr, .inl (cI, 16, .inl u.2))]) 0 0 := by
  refine wm_i (cc := cX8_ask) (maxL := 3) (ret := (some .int)) (by decide) rfl (Nat.le_of_ble_eq_true rfl) ?_
  intro p e s m below meth c A ls hx hb hr hml hown hts hlocks hin hP hK hD hN hA hl hS
  have hown : s.vm.findClass RX8 = some m.cls := hown
  have hl : lv_has ls 3 [(0, .ref h), (1, .int v), (2, .int k)] := hl
  change W p l e ({ frames := 7, cells := 0, slots := 0, locals := 153 }) s m ([.ref h, .int v, .int k] : List Value).toArray below meth c s.heap [] 0 0 (MQ below (va_Qi (fun (r : Int32) (u : Int32 × (Nat → Int32)) => (0 ≤ u.1.toInt ∧ u.1.toInt ≤ 16)) (fun u t => wb D A ((fun u => [(h, .inr (7, [.ref sl, .int na, .ref zs, .ref ln, .ref ir, .ref tk, .int su, .int le, .ref tb, .int fu, .int ap, .int pp, .ref tr, .int u.1, .ref fz, .int nm])), (sl, .inl (cI, 1653, .inl sf)), (tr, .inl (cI, 16, .inl u.2))]) u) t) A) ([.ref h, .int v, .int k] : List Value).toArray s 0 0 A) (F0 m 0 ls [])
  refine lv_aload_n hx hb dX8_ask_0 rfl (lv_at hl 0 rfl) ?_
  refine lv_iload_n hx hb dX8_ask_1 rfl (lv_at hl 1 rfl) ?_
  have k_1 := (g_X8_isWalkerThere l D cI cB cQ s.heap.size h sl zs ln ir tk tb tr fz na su le fu ap pp tc nm v sf v0 hsi)
  refine wc_i (WC := [(h, .inr (7, [.ref sl, .int na, .ref zs, .ref ln, .ref ir, .ref tk, .int su, .int le, .ref tb, .int fu, .int ap, .int pp, .ref tr, .int tc, .ref fz, .int nm])), (sl, .inl (cI, 1653, .inl sf))]) (WR := [(tr, .inl (cI, 16, .inl trf))]) (va_runV (As := [.int v]) (rest := []) ⟨hx, hb, hml, hown, hts⟩ k_1 (cwV 1 hts gX8_ask_X8_isWalkerThere rfl rfl rfl (by decide +kernel) ⟨Nat.le_of_ble_eq_true rfl, Nat.le_of_ble_eq_true rfl⟩) (wp_V hP hK hD hN [0, 1] (by decide) rfl (ci := 7) rfl rfl) rfl rfl hl.1 rfl (lv_room (Nat.le_of_ble_eq_true rfl)) dX8_ask_2 ⟨Nat.le_of_ble_eq_true rfl, Nat.le_of_ble_eq_true rfl⟩) hP hD hS hA [0, 1] [2] rfl rfl (by decide) (by decide) (fun r_1 u_1 H locs hw_1 hP hD hS => ?_)
  clear k_1
  have hP : va_P D kl [(tr, .inl (cI, 16, .inl trf)), (h, .inr (7, [.ref sl, .int na, .ref zs, .ref ln, .ref ir, .ref tk, .int su, .int le, .ref tb, .int fu, .int ap, .int pp, .ref tr, .int tc, .ref fz, .int nm])), (sl, .inl (cI, 1653, .inl sf))] H := hP
  have hD : va_D A [(tr, .inl (cI, 16, .inl trf)), (h, .inr (7, [.ref sl, .int na, .ref zs, .ref ln, .ref ir, .ref tk, .int su, .int le, .ref tb, .int fu, .int ap, .int pp, .ref tr, .int tc, .ref fz, .int nm])), (sl, .inl (cI, 1653, .inl sf))] := hD
  have c1_0 := hw_1
  rcases c1_0 with ⟨e_1, f_1⟩ | e_1
  · subst e_1
    have f_1 : 0 ≤ v.toInt ∧ v.toInt ≤ 2 := f_1
    refine lv_if_eq (tgt := 18) hx hb dX8_ask_5 (by decide) (fun c9 => absurd c9 (by decide)) (fun _ => ?_)
    refine lv_iload_n hx hb dX8_ask_8 rfl (lv_at hl 2 rfl) ?_
    refine lv_i2l (v := (k.toInt64)) hx hb dX8_ask_9 rfl ?_
    refine lv_lconst (v := 0) hx hb dX8_ask_10 (by decide) ?_
    refine lv_lconst (v := 1) hx hb dX8_ask_11 (by decide) ?_
    have k_2 := (g_X8_in l D cI cB cQ H.size (k.toInt64) 0 1)
    refine wc_i (WC := []) (WR := [(tr, .inl (cI, 16, .inl trf)), (h, .inr (7, [.ref sl, .int na, .ref zs, .ref ln, .ref ir, .ref tk, .int su, .int le, .ref tb, .int fu, .int ap, .int pp, .ref tr, .int tc, .ref fz, .int nm])), (sl, .inl (cI, 1653, .inl sf))]) (va_runS (As := [.long (k.toInt64), .long 0, .long 1]) (rest := []) ⟨hx, hb, hml, hown, hts⟩ k_2 (va_cwS 3 hts gX8_ask_X8_in rfl rfl rfl (by decide +kernel) ⟨Nat.le_of_ble_eq_true rfl, Nat.le_of_ble_eq_true rfl⟩) (wp_S hP hK hD hN [] (by decide) rfl) rfl rfl hl.1 rfl (lv_room (Nat.le_of_ble_eq_true rfl)) dX8_ask_12 ⟨Nat.le_of_ble_eq_true rfl, Nat.le_of_ble_eq_true rfl⟩) hP hD hS hA [] [0, 1, 2] rfl rfl (by decide) (by decide) (fun r_2 u_2 H locs hw_2 hP hD hS => ?_)
    clear k_2
    have hP : va_P D kl [(tr, .inl (cI, 16, .inl trf)), (h, .inr (7, [.ref sl, .int na, .ref zs, .ref ln, .ref ir, .ref tk, .int su, .int le, .ref tb, .int fu, .int ap, .int pp, .ref tr, .int tc, .ref fz, .int nm])), (sl, .inl (cI, 1653, .inl sf))] H := hP
    have hD : va_D A [(tr, .inl (cI, 16, .inl trf)), (h, .inr (7, [.ref sl, .int na, .ref zs, .ref ln, .ref ir, .ref tk, .int su, .int le, .ref tb, .int fu, .int ap, .int pp, .ref tr, .int tc, .ref fz, .int nm])), (sl, .inl (cI, 1653, .inl sf))] := hD
    have c2_0 := hw_2
    rcases c2_0 with ⟨e_2, f_2⟩ | ⟨e_2, f_2⟩
    · subst e_2
      have f_2 : (0 : Int) ≤ k.toInt ∧ k.toInt ≤ (1 : Int) := by
        have h8 := f_2
        try simp only [zl_of] at h8
        exact h8
      refine lv_if_ne (tgt := 21) hx hb dX8_ask_15 (by decide) (fun _ => ?_) (fun c9 => absurd c9 (by decide))
      refine lv_aload_n hx hb dX8_ask_21 rfl (lv_at hl 0 rfl) ?_
      refine lv_iconst (v := 0) hx hb dX8_ask_22 (by decide) ?_
      refine va_put (D := D) (ci := 7) (v := .int 0) (ty := .int) (C := RX8) (T := TX8) (N := 16) hx hb hts (fun _ h => List.mem_cons_of_mem _ (List.mem_append_right _ h)) tyX8 tyX8_ok nmX8 hown hK hP hD hS 1 rfl rfl 13 (by decide) (hts (.fieldLink RX8 208 "WinterWalkModel" "traced" "I") (List.mem_of_getElem? (i := 2) rfl)) (fun _ h9 => h9) rfl (by decide +kernel) rfl rfl (Nat.le_of_ble_eq_true rfl) dX8_ask_23 (fun H locs hP hD hS => ?_)
      have hP : va_P D kl [(tr, .inl (cI, 16, .inl trf)), (h, .inr (7, [.ref sl, .int na, .ref zs, .ref ln, .ref ir, .ref tk, .int su, .int le, .ref tb, .int fu, .int ap, .int pp, .ref tr, .int 0, .ref fz, .int nm])), (sl, .inl (cI, 1653, .inl sf))] H := hP
      have hD : va_D A [(tr, .inl (cI, 16, .inl trf)), (h, .inr (7, [.ref sl, .int na, .ref zs, .ref ln, .ref ir, .ref tk, .int su, .int le, .ref tb, .int fu, .int ap, .int pp, .ref tr, .int 0, .ref fz, .int nm])), (sl, .inl (cI, 1653, .inl sf))] := hD
      refine lv_iload_n hx hb dX8_ask_26 rfl (lv_at hl 2 rfl) ?_
      refine lv_if_ne (tgt := 38) hx hb dX8_ask_27 (by decide) (fun c_3 => ?_) (fun c_3 => ?_)
      · have f_3 : ¬ k.toInt = 0 := zi_ne c_3
        refine lv_aload_n hx hb dX8_ask_38 rfl (lv_at hl 0 rfl) ?_
        refine lv_iload_n hx hb dX8_ask_39 rfl (lv_at hl 1 rfl) ?_
        have k_4 := (g_X8_markOf l D cI cB cQ H.size h sl zs ln ir tk tb tr fz na su le fu ap pp 0 nm v sf trf v0 hsi (by omega) (by omega) (by omega) ⟨by decide, by decide⟩ (by omega))
        refine wc_i (WC := [(h, .inr (7, [.ref sl, .int na, .ref zs, .ref ln, .ref ir, .ref tk, .int su, .int le, .ref tb, .int fu, .int ap, .int pp, .ref tr, .int 0, .ref fz, .int nm])), (sl, .inl (cI, 1653, .inl sf)), (tr, .inl (cI, 16, .inl trf))]) (WR := []) (va_runV (As := [.int v]) (rest := []) ⟨hx, hb, hml, hown, hts⟩ k_4 (cwV 1 hts gX8_ask_X8_markOf rfl rfl rfl (by decide +kernel) ⟨Nat.le_of_ble_eq_true rfl, Nat.le_of_ble_eq_true rfl⟩) (wp_V hP hK hD hN [1, 2, 0] (by decide) rfl (ci := 7) rfl rfl) rfl rfl hl.1 rfl (lv_room (Nat.le_of_ble_eq_true rfl)) dX8_ask_40 ⟨Nat.le_of_ble_eq_true rfl, Nat.le_of_ble_eq_true rfl⟩) hP hD hS hA [1, 2, 0] [] rfl rfl (by decide) (by decide) (fun r_4 => pe2 (fun v4_0 v4_1 H locs hw_4 hP hD hS => ?_))
        clear k_4
        have hP : va_P D kl [(h, .inr (7, [.ref sl, .int na, .ref zs, .ref ln, .ref ir, .ref tk, .int su, .int le, .ref tb, .int fu, .int ap, .int pp, .ref tr, .int v4_0, .ref fz, .int nm])), (sl, .inl (cI, 1653, .inl sf)), (tr, .inl (cI, 16, .inl v4_1))] H := hP
        have hD : va_D A [(h, .inr (7, [.ref sl, .int na, .ref zs, .ref ln, .ref ir, .ref tk, .int su, .int le, .ref tb, .int fu, .int ap, .int pp, .ref tr, .int v4_0, .ref fz, .int nm])), (sl, .inl (cI, 1653, .inl sf)), (tr, .inl (cI, 16, .inl v4_1))] := hD
        have c4_0 := hw_4
        have c4_0 : 0 ≤ v4_0.toInt ∧ v4_0.toInt ≤ 16 := c4_0
        exact wr_i (v := r_4) hx hb hr hlocks hS (v4_0, v4_1) (by exact show 0 ≤ (v4_0 : Int32).toInt ∧ (v4_0 : Int32).toInt ≤ 16 from by omega) (hP.sub [0, 1, 2] rfl) (hD.sub [0, 1, 2] (by decide) rfl) dX8_ask_43
      · have f_3 : k.toInt = 0 := zi_eq c_3
        refine lv_aload_n hx hb dX8_ask_30 rfl (lv_at hl 0 rfl) ?_
        refine lv_iload_n hx hb dX8_ask_31 rfl (lv_at hl 1 rfl) ?_
        have k_5 := (g_X8_sizeOf l D cI cB cQ H.size h sl zs ln ir tk tb tr fz na su le fu ap pp 0 nm v sf trf v0 hsi (by omega) (by omega) (by omega) ⟨by decide, by decide⟩ (by omega))
        refine wc_i (WC := [(h, .inr (7, [.ref sl, .int na, .ref zs, .ref ln, .ref ir, .ref tk, .int su, .int le, .ref tb, .int fu, .int ap, .int pp, .ref tr, .int 0, .ref fz, .int nm])), (sl, .inl (cI, 1653, .inl sf)), (tr, .inl (cI, 16, .inl trf))]) (WR := []) (va_runV (As := [.int v]) (rest := []) ⟨hx, hb, hml, hown, hts⟩ k_5 (cwV 1 hts gX8_ask_X8_sizeOf rfl rfl rfl (by decide +kernel) ⟨Nat.le_of_ble_eq_true rfl, Nat.le_of_ble_eq_true rfl⟩) (wp_V hP hK hD hN [1, 2, 0] (by decide) rfl (ci := 7) rfl rfl) rfl rfl hl.1 rfl (lv_room (Nat.le_of_ble_eq_true rfl)) dX8_ask_32 ⟨Nat.le_of_ble_eq_true rfl, Nat.le_of_ble_eq_true rfl⟩) hP hD hS hA [1, 2, 0] [] rfl rfl (by decide) (by decide) (fun r_5 => pe2 (fun v5_0 v5_1 H locs hw_5 hP hD hS => ?_))
        clear k_5
        have hP : va_P D kl [(h, .inr (7, [.ref sl, .int na, .ref zs, .ref ln, .ref ir, .ref tk, .int su, .int le, .ref tb, .int fu, .int ap, .int pp, .ref tr, .int v5_0, .ref fz, .int nm])), (sl, .inl (cI, 1653, .inl sf)), (tr, .inl (cI, 16, .inl v5_1))] H := hP
        have hD : va_D A [(h, .inr (7, [.ref sl, .int na, .ref zs, .ref ln, .ref ir, .ref tk, .int su, .int le, .ref tb, .int fu, .int ap, .int pp, .ref tr, .int v5_0, .ref fz, .int nm])), (sl, .inl (cI, 1653, .inl sf)), (tr, .inl (cI, 16, .inl v5_1))] := hD
        have c5_0 := hw_5
        have c5_0 : 0 ≤ v5_0.toInt ∧ v5_0.toInt ≤ 16 := c5_0
        refine lv_goto (tgt := 43) hx hb dX8_ask_35 (by decide) ?_
        exact wr_i (v := r_5) hx hb hr hlocks hS (v5_0, v5_1) (by exact show 0 ≤ (v5_0 : Int32).toInt ∧ (v5_0 : Int32).toInt ≤ 16 from by omega) (hP.sub [0, 1, 2] rfl) (hD.sub [0, 1, 2] (by decide) rfl) dX8_ask_43
    · subst e_2
      have f_2 : ¬ ((0 : Int) ≤ k.toInt ∧ k.toInt ≤ (1 : Int)) := by
        have h8 := f_2
        try simp only [zl_of] at h8
        exact h8
      refine lv_if_ne (tgt := 21) hx hb dX8_ask_15 (by decide) (fun c9 => absurd (by decide) c9) (fun _ => ?_)
      refine lv_ldc (v := (-1000001)) hx hb hown (hts (.constant RX8 48 (-1000001)) (List.mem_of_getElem? (i := 1) rfl)) dX8_ask_18 ?_
      exact wr_i (v := (-1000001)) hx hb hr hlocks hS (tc, trf) (by exact show 0 ≤ (tc : Int32).toInt ∧ (tc : Int32).toInt ≤ 16 from by omega) (hP.sub [1, 2, 0] rfl) (hD.sub [1, 2, 0] (by decide) rfl) dX8_ask_20
  · subst e_1
    refine lv_if_eq (tgt := 18) hx hb dX8_ask_5 (by decide) (fun _ => ?_) (fun c9 => absurd (by decide) c9)
    refine lv_ldc (v := (-1000001)) hx hb hown (hts (.constant RX8 48 (-1000001)) (List.mem_of_getElem? (i := 1) rfl)) dX8_ask_18 ?_
    exact wr_i (v := (-1000001)) hx hb hr hlocks hS (tc, trf) (by exact show 0 ≤ (tc : Int32).toInt ∧ (tc : Int32).toInt ≤ 16 from by omega) (hP.sub [1, 2, 0] rfl) (hD.sub [1, 2, 0] (by decide) rfl) dX8_ask_20
set_option maxHeartbeats 4000000 in
set_option maxRecDepth 100000 in
theorem g_X8_trace (l : Launch) (D : va_G) (cI cB cQ : ClassId) (sz : Nat) (h : Nat) (sl : Nat) (zs : Nat) (ln : Nat) (ir : Nat) (tk : Nat) (tb : Nat) (tr : Nat) (fz : Nat) (na : Int32) (su : Int32) (le : Int32) (fu : Int32) (ap : Int32) (pp : Int32) (tc : Int32) (nm : Int32) (i : Int32) (trf : Nat → Int32) (h_na : 0 ≤ na.toInt ∧ na.toInt ≤ 24) (h_le : 0 ≤ le.toInt ∧ le.toInt ≤ 120) (h_ap : 0 ≤ ap.toInt ∧ ap.toInt ≤ 120) (h_tc : 0 ≤ tc.toInt ∧ tc.toInt ≤ 16) : mi l yX8_trace wsX8_trace ({ frames := 1, cells := 0, slots := 0, locals := 25 }) D cI cB cQ [.ref h, .int i] sz [(h, .inr (7, [.ref sl, .int na, .ref zs, .ref ln, .ref ir, .ref tk, .int su, .int le, .ref tb, .int fu, .int ap, .int pp, .ref tr, .int tc, .ref fz, .int nm])), (tr, .inl (cI, 16, .inl trf))] (fun (r : Int32) (_u : Unit) => True) (fun _ => [(h, .inr (7, [.ref sl, .int na, .ref zs, .ref ln, .ref ir, .ref tk, .int su, .int le, .ref tb, .int fu, .int ap, .int pp, .ref tr, .int tc, .ref fz, .int nm])), (tr, .inl (cI, 16, .inl trf))]) 0 0 := by
  refine wm_i (cc := cX8_trace) (maxL := 2) (ret := (some .int)) (by decide) rfl (Nat.le_of_ble_eq_true rfl) ?_
  intro p e s m below meth c A ls hx hb hr hml hown hts hlocks hin hP hK hD hN hA hl hS
  have hown : s.vm.findClass RX8 = some m.cls := hown
  have hl : lv_has ls 2 [(0, .ref h), (1, .int i)] := hl
  change W p l e ({ frames := 1, cells := 0, slots := 0, locals := 25 }) s m ([.ref h, .int i] : List Value).toArray below meth c s.heap [] 0 0 (MQ below (va_Qi (fun (r : Int32) (_u : Unit) => True) (fun u t => wb D A ((fun _ => [(h, .inr (7, [.ref sl, .int na, .ref zs, .ref ln, .ref ir, .ref tk, .int su, .int le, .ref tb, .int fu, .int ap, .int pp, .ref tr, .int tc, .ref fz, .int nm])), (tr, .inl (cI, 16, .inl trf))]) u) t) A) ([.ref h, .int i] : List Value).toArray s 0 0 A) (F0 m 0 ls [])
  refine lv_iload_n hx hb dX8_trace_0 rfl (lv_at hl 1 rfl) ?_
  refine lv_i2l (v := (i.toInt64)) hx hb dX8_trace_1 rfl ?_
  refine lv_lconst (v := 0) hx hb dX8_trace_2 (by decide) ?_
  refine lv_aload_n hx hb dX8_trace_3 rfl (lv_at hl 0 rfl) ?_
  refine va_get (D := D) (ci := 7) (v := .int tc) (C := RX8) (T := TX8) (N := 16) hx hb hts (fun _ h => List.mem_cons_of_mem _ (List.mem_append_right _ h)) hown hK hP 0 rfl rfl 13 (by decide) (hts (.fieldLink RX8 208 "WinterWalkModel" "traced" "I") (List.mem_of_getElem? (i := 1) rfl)) (fun _ h9 => h9) rfl dX8_trace_4 ?_
  refine lv_iconst (v := 1) hx hb dX8_trace_7 (by decide) ?_
  refine lv_isub hx hb dX8_trace_8 ?_
  refine lv_topi (fun x_1 ex_1 => ?_)
  have e_1 : x_1.toInt = tc.toInt - 1 := by rw [ex_1]; exact zi_sub (rfl) (by decide) (by omega) (by omega)
  clear ex_1
  refine lv_i2l (v := (x_1.toInt64)) hx hb dX8_trace_9 rfl ?_
  have k_2 := (g_X8_in l D cI cB cQ s.heap.size (i.toInt64) 0 (x_1.toInt64))
  refine wc_i (WC := []) (WR := [(h, .inr (7, [.ref sl, .int na, .ref zs, .ref ln, .ref ir, .ref tk, .int su, .int le, .ref tb, .int fu, .int ap, .int pp, .ref tr, .int tc, .ref fz, .int nm])), (tr, .inl (cI, 16, .inl trf))]) (va_runS (As := [.long (i.toInt64), .long 0, .long (x_1.toInt64)]) (rest := []) ⟨hx, hb, hml, hown, hts⟩ k_2 (va_cwS 3 hts gX8_trace_X8_in rfl rfl rfl (by decide +kernel) ⟨Nat.le_of_ble_eq_true rfl, Nat.le_of_ble_eq_true rfl⟩) (wp_S hP hK hD hN [] (by decide) rfl) rfl rfl hl.1 rfl (lv_room (Nat.le_of_ble_eq_true rfl)) dX8_trace_10 ⟨Nat.le_of_ble_eq_true rfl, Nat.le_of_ble_eq_true rfl⟩) hP hD hS hA [] [0, 1] rfl rfl (by decide) (by decide) (fun r_2 u_2 H locs hw_2 hP hD hS => ?_)
  clear k_2
  have hP : va_P D kl [(h, .inr (7, [.ref sl, .int na, .ref zs, .ref ln, .ref ir, .ref tk, .int su, .int le, .ref tb, .int fu, .int ap, .int pp, .ref tr, .int tc, .ref fz, .int nm])), (tr, .inl (cI, 16, .inl trf))] H := hP
  have hD : va_D A [(h, .inr (7, [.ref sl, .int na, .ref zs, .ref ln, .ref ir, .ref tk, .int su, .int le, .ref tb, .int fu, .int ap, .int pp, .ref tr, .int tc, .ref fz, .int nm])), (tr, .inl (cI, 16, .inl trf))] := hD
  have c2_0 := hw_2
  rcases c2_0 with ⟨e_2, f_2⟩ | ⟨e_2, f_2⟩
  · subst e_2
    have f_2 : (0 : Int) ≤ i.toInt ∧ i.toInt ≤ x_1.toInt := by
      have h8 := f_2
      try simp only [zl_of] at h8
      exact h8
    refine lv_if_eq (tgt := 25) hx hb dX8_trace_13 (by decide) (fun c9 => absurd c9 (by decide)) (fun _ => ?_)
    refine lv_aload_n hx hb dX8_trace_16 rfl (lv_at hl 0 rfl) ?_
    refine va_get (D := D) (ci := 7) (v := .ref tr) (C := RX8) (T := TX8) (N := 16) hx hb hts (fun _ h => List.mem_cons_of_mem _ (List.mem_append_right _ h)) hown hK hP 0 rfl rfl 12 (by decide) (hts (.fieldLink RX8 29 "WinterWalkModel" "trace" "[I") (List.mem_of_getElem? (i := 2) rfl)) (fun _ h9 => h9) rfl dX8_trace_17 ?_
    refine lv_iload_n hx hb dX8_trace_20 rfl (lv_at hl 1 rfl) ?_
    refine va_iald hx hb hK hP 1 0 rfl rfl (zi_in (by omega) (by omega)) dX8_trace_21 ?_
    refine lv_topi (fun x_3 ex_3 => ?_)
    clear ex_3
    refine lv_goto (tgt := 27) hx hb dX8_trace_22 (by decide) ?_
    exact wr_i (v := x_3) hx hb hr hlocks hS () (by trivial) (hP.sub [0, 1] rfl) (hD.sub [0, 1] (by decide) rfl) dX8_trace_27
  · subst e_2
    have f_2 : ¬ ((0 : Int) ≤ i.toInt ∧ i.toInt ≤ x_1.toInt) := by
      have h8 := f_2
      try simp only [zl_of] at h8
      exact h8
    refine lv_if_eq (tgt := 25) hx hb dX8_trace_13 (by decide) (fun _ => ?_) (fun c9 => absurd (by decide) c9)
    refine lv_ldc (v := (-1000000)) hx hb hown (hts (.constant RX8 99 (-1000000)) (List.mem_of_getElem? (i := 3) rfl)) dX8_trace_25 ?_
    exact wr_i (v := (-1000000)) hx hb hr hlocks hS () (by trivial) (hP.sub [0, 1] rfl) (hD.sub [0, 1] (by decide) rfl) dX8_trace_27
set_option maxHeartbeats 4000000 in
set_option maxRecDepth 100000 in
theorem g_X8_count (l : Launch) (D : va_G) (cI cB cQ : ClassId) (sz : Nat) (h : Nat) (sl : Nat) (zs : Nat) (ln : Nat) (ir : Nat) (tk : Nat) (tb : Nat) (tr : Nat) (fz : Nat) (na : Int32) (su : Int32) (le : Int32) (fu : Int32) (ap : Int32) (pp : Int32) (tc : Int32) (nm : Int32) (k : Int32) (sf : Nat → Int32) (zf : Nat → Int32) (v0 : Int) (hsi : SI sf v0) (hz : ∀ j, j < 8 → (-1) ≤ (zf j).toInt ∧ (zf j).toInt ≤ 40) : mi l yX8_count wsX8_count ({ frames := 1, cells := 0, slots := 0, locals := 25 }) D cI cB cQ [.ref h, .int k] sz [(h, .inr (7, [.ref sl, .int na, .ref zs, .ref ln, .ref ir, .ref tk, .int su, .int le, .ref tb, .int fu, .int ap, .int pp, .ref tr, .int tc, .ref fz, .int nm])), (sl, .inl (cI, 1653, .inl sf)), (zs, .inl (cI, 8, .inl zf))] (fun (r : Int32) (_u : Unit) => True) (fun _ => [(h, .inr (7, [.ref sl, .int na, .ref zs, .ref ln, .ref ir, .ref tk, .int su, .int le, .ref tb, .int fu, .int ap, .int pp, .ref tr, .int tc, .ref fz, .int nm])), (sl, .inl (cI, 1653, .inl sf)), (zs, .inl (cI, 8, .inl zf))]) 0 0 := by
  refine wm_i (cc := cX8_count) (maxL := 4) (ret := (some .int)) (by decide) rfl (Nat.le_of_ble_eq_true rfl) ?_
  intro p e s m below meth c A ls hx hb hr hml hown hts hlocks hin hP hK hD hN hA hl hS
  have hown : s.vm.findClass RX8 = some m.cls := hown
  have hl : lv_has ls 4 [(0, .ref h), (1, .int k)] := hl
  change W p l e ({ frames := 1, cells := 0, slots := 0, locals := 25 }) s m ([.ref h, .int k] : List Value).toArray below meth c s.heap [] 0 0 (MQ below (va_Qi (fun (r : Int32) (_u : Unit) => True) (fun u t => wb D A ((fun _ => [(h, .inr (7, [.ref sl, .int na, .ref zs, .ref ln, .ref ir, .ref tk, .int su, .int le, .ref tb, .int fu, .int ap, .int pp, .ref tr, .int tc, .ref fz, .int nm])), (sl, .inl (cI, 1653, .inl sf)), (zs, .inl (cI, 8, .inl zf))]) u) t) A) ([.ref h, .int k] : List Value).toArray s 0 0 A) (F0 m 0 ls [])
  refine lv_iload_n hx hb dX8_count_0 rfl (lv_at hl 1 rfl) ?_
  refine lv_i2l (v := (k.toInt64)) hx hb dX8_count_1 rfl ?_
  refine lv_lconst (v := 0) hx hb dX8_count_2 (by decide) ?_
  refine lv_ldc2 (v := 8) hx hb hown (hts (.constantLong RX8 238 (8)) (List.mem_of_getElem? (i := 1) rfl)) dX8_count_3 ?_
  have k_1 := (g_X8_in l D cI cB cQ s.heap.size (k.toInt64) 0 8)
  refine wc_i (WC := []) (WR := [(h, .inr (7, [.ref sl, .int na, .ref zs, .ref ln, .ref ir, .ref tk, .int su, .int le, .ref tb, .int fu, .int ap, .int pp, .ref tr, .int tc, .ref fz, .int nm])), (sl, .inl (cI, 1653, .inl sf)), (zs, .inl (cI, 8, .inl zf))]) (va_runS (As := [.long (k.toInt64), .long 0, .long 8]) (rest := []) ⟨hx, hb, hml, hown, hts⟩ k_1 (va_cwS 3 hts gX8_count_X8_in rfl rfl rfl (by decide +kernel) ⟨Nat.le_of_ble_eq_true rfl, Nat.le_of_ble_eq_true rfl⟩) (wp_S hP hK hD hN [] (by decide) rfl) rfl rfl hl.1 rfl (lv_room (Nat.le_of_ble_eq_true rfl)) dX8_count_6 ⟨Nat.le_of_ble_eq_true rfl, Nat.le_of_ble_eq_true rfl⟩) hP hD hS hA [] [0, 1, 2] rfl rfl (by decide) (by decide) (fun r_1 u_1 H locs hw_1 hP hD hS => ?_)
  clear k_1
  have hP : va_P D kl [(h, .inr (7, [.ref sl, .int na, .ref zs, .ref ln, .ref ir, .ref tk, .int su, .int le, .ref tb, .int fu, .int ap, .int pp, .ref tr, .int tc, .ref fz, .int nm])), (sl, .inl (cI, 1653, .inl sf)), (zs, .inl (cI, 8, .inl zf))] H := hP
  have hD : va_D A [(h, .inr (7, [.ref sl, .int na, .ref zs, .ref ln, .ref ir, .ref tk, .int su, .int le, .ref tb, .int fu, .int ap, .int pp, .ref tr, .int tc, .ref fz, .int nm])), (sl, .inl (cI, 1653, .inl sf)), (zs, .inl (cI, 8, .inl zf))] := hD
  have c1_0 := hw_1
  rcases c1_0 with ⟨e_1, f_1⟩ | ⟨e_1, f_1⟩
  · subst e_1
    have f_1 : (0 : Int) ≤ k.toInt ∧ k.toInt ≤ (8 : Int) := by
      have h8 := f_1
      try simp only [zl_of] at h8
      exact h8
    refine lv_if_ne (tgt := 15) hx hb dX8_count_9 (by decide) (fun _ => ?_) (fun c9 => absurd c9 (by decide))
    refine lv_iconst (v := 0) hx hb dX8_count_15 (by decide) ?_
    refine lv_istore_n (lv' := [(2, .int 0), (0, .ref h), (1, .int k)]) hx hb dX8_count_16 rfl hl (by decide) rfl (fun ls hl => ?_)
    refine lv_iload_n hx hb dX8_count_17 rfl (lv_at hl 2 rfl) ?_
    by_cases f_2 : k.toInt < 0 ∨ 7 < k.toInt
    · refine lv_tableOut (tgt := 147) hx hb dX8_count_18 f_2 (by decide) ?_
      refine lv_aload_n hx hb dX8_count_147 rfl (lv_at hl 1 rfl) ?_
      refine va_get (D := D) (ci := 7) (v := .int le) (C := RX8) (T := TX8) (N := 16) hx hb hts (fun _ h => List.mem_cons_of_mem _ (List.mem_append_right _ h)) hown hK hP 0 rfl rfl 7 (by decide) (hts (.fieldLink RX8 58 "WinterWalkModel" "length" "I") (List.mem_of_getElem? (i := 6) rfl)) (fun _ h9 => h9) rfl dX8_count_148 ?_
      exact wr_i (v := le) hx hb hr hlocks hS () (by trivial) (hP.sub [0, 1, 2] rfl) (hD.sub [0, 1, 2] (by decide) rfl) dX8_count_151
    · rcases (show k.toInt = 0 ∨ k.toInt = 1 ∨ k.toInt = 2 ∨ k.toInt = 3 ∨ k.toInt = 4 ∨ k.toInt = 5 ∨ k.toInt = 6 ∨ k.toInt = 7 by omega) with g_2 | g_2 | g_2 | g_2 | g_2 | g_2 | g_2 | g_2
      · refine lv_tableIn (off := 46) (tgt := 64) hx hb dX8_count_18 (by omega) (by omega) (by rw [g_2]; rfl) (by decide) ?_
        refine lv_iconst (v := 0) hx hb dX8_count_64 (by decide) ?_
        refine lv_istore_n (lv' := [(3, .int 0), (2, .int 0), (0, .ref h), (1, .int k)]) hx hb dX8_count_65 rfl hl (by decide) rfl (fun ls hl => ?_)
        have hL66 : ∀ (nf : Nat) (t3_c66 : Int32) (t2_c66 : Int32) (H : Heap) (locs : List Loc) (ls : Array Slot), (0 ≤ t3_c66.toInt ∧ t3_c66.toInt ≤ 8) → (8 - t3_c66.toInt).toNat < nf → va_P D kl [(h, .inr (7, [.ref sl, .int na, .ref zs, .ref ln, .ref ir, .ref tk, .int su, .int le, .ref tb, .int fu, .int ap, .int pp, .ref tr, .int tc, .ref fz, .int nm])), (sl, .inl (cI, 1653, .inl sf)), (zs, .inl (cI, 8, .inl zf))] H → va_D A [(h, .inr (7, [.ref sl, .int na, .ref zs, .ref ln, .ref ir, .ref tk, .int su, .int le, .ref tb, .int fu, .int ap, .int pp, .ref tr, .int tc, .ref fz, .int nm])), (sl, .inl (cI, 1653, .inl sf)), (zs, .inl (cI, 8, .inl zf))] → va_S A s.heap H locs → lv_has ls 4 [(3, .int t3_c66), (2, .int t2_c66), (0, .ref h), (1, .int k)] → W p l e ({ frames := 1, cells := 0, slots := 0, locals := 25 }) s m ([.ref h, .int k] : List Value).toArray below meth c H locs 0 0 (MQ below (va_Qi (fun (r : Int32) (_u : Unit) => True) (fun u t => wb D A ((fun _ => [(h, .inr (7, [.ref sl, .int na, .ref zs, .ref ln, .ref ir, .ref tk, .int su, .int le, .ref tb, .int fu, .int ap, .int pp, .ref tr, .int tc, .ref fz, .int nm])), (sl, .inl (cI, 1653, .inl sf)), (zs, .inl (cI, 8, .inl zf))]) u) t) A) ([.ref h, .int k] : List Value).toArray s 0 0 A) (F0 m 66 ls []) := by
          intro nf
          induction nf with
          | zero =>
            intro t3_c66 t2_c66 H locs ls i_t3_c66 hm
            exact absurd hm (Nat.not_lt_zero _)
          | succ nf ih66 =>
            intro t3_c66 t2_c66 H locs ls i_t3_c66 hm66 hP hD hS hl
            refine lv_iload_n hx hb dX8_count_66 rfl (lv_at hl 0 rfl) ?_
            refine lv_bipush (v := 8) hx hb dX8_count_67 (by decide) ?_
            refine lv_icmp_ge (tgt := 95) hx hb dX8_count_69 (by decide) (fun c_3 => ?_) (fun c_3 => ?_)
            · have f_3 : 8 ≤ t3_c66.toInt := zi_le c_3
              refine lv_iload_n hx hb dX8_count_95 rfl (lv_at hl 1 rfl) ?_
              exact wr_i (v := t2_c66) hx hb hr hlocks hS () (by trivial) (hP.sub [0, 1, 2] rfl) (hD.sub [0, 1, 2] (by decide) rfl) dX8_count_96
            · have f_3 : ¬ 8 ≤ t3_c66.toInt := zi_nle c_3
              refine lv_iload_n hx hb dX8_count_72 rfl (lv_at hl 1 rfl) ?_
              refine lv_aload_n hx hb dX8_count_73 rfl (lv_at hl 2 rfl) ?_
              refine va_get (D := D) (ci := 7) (v := .ref zs) (C := RX8) (T := TX8) (N := 16) hx hb hts (fun _ h => List.mem_cons_of_mem _ (List.mem_append_right _ h)) hown hK hP 0 rfl rfl 2 (by decide) (hts (.fieldLink RX8 13 "WinterWalkModel" "size" "[I") (List.mem_of_getElem? (i := 3) rfl)) (fun _ h9 => h9) rfl dX8_count_74 ?_
              refine lv_iload_n hx hb dX8_count_77 rfl (lv_at hl 0 rfl) ?_
              refine va_iald hx hb hK hP 2 0 rfl rfl (zi_in (by omega) (by omega)) dX8_count_78 ?_
              refine lv_topi (fun x_4 ex_4 => ?_)
              have f_4 : (-1) ≤ x_4.toInt ∧ x_4.toInt ≤ 40 := by rw [ex_4]; exact hz _ (zi_cl (by omega) (by omega))
              clear ex_4
              refine lv_if_ge (tgt := 86) hx hb dX8_count_79 (by decide) (fun c_5 => ?_) (fun c_5 => ?_)
              · have f_5 : 0 ≤ x_4.toInt := zi_le c_5
                refine lv_iconst (v := 1) hx hb dX8_count_86 (by decide) ?_
                refine lv_iadd hx hb dX8_count_87 ?_
                refine lv_topi (fun x_6 ex_6 => ?_)
                clear ex_6
                refine lv_istore_n (lv' := [(2, .int x_6), (3, .int t3_c66), (0, .ref h), (1, .int k)]) hx hb dX8_count_88 rfl hl (by decide) rfl (fun ls hl => ?_)
                obtain ⟨x_7, ex_7⟩ : ∃ y : Int32, y = t3_c66 + Int32.ofInt 1 := ⟨_, rfl⟩
                refine lv_iinc (v := x_7) (lv' := [(3, .int x_7), (2, .int x_6), (0, .ref h), (1, .int k)]) hx hb dX8_count_89 hl (k := 1) rfl ex_7.symm (by decide) rfl (fun ls hl => ?_)
                have ex_7 : x_7 = t3_c66 + 1 := ex_7
                have e_7 : x_7.toInt = t3_c66.toInt + 1 := by rw [ex_7]; exact zi_add (rfl) (by decide) (by omega) (by omega)
                clear ex_7
                refine lv_goto (tgt := 66) hx hb dX8_count_92 (by decide) ?_
                exact ih66 x_7 x_6 _ _ _ (show 0 ≤ x_7.toInt ∧ x_7.toInt ≤ 8 from by omega) (by omega) (hP.sub [0, 1, 2] rfl) (hD.sub [0, 1, 2] (by decide) rfl) hS (lv_sub hl [0, 1, 2, 3] rfl)
              · have f_5 : ¬ 0 ≤ x_4.toInt := zi_nle c_5
                refine lv_iconst (v := 0) hx hb dX8_count_82 (by decide) ?_
                refine lv_goto (tgt := 87) hx hb dX8_count_83 (by decide) ?_
                refine lv_iadd hx hb dX8_count_87 ?_
                refine lv_topi (fun x_8 ex_8 => ?_)
                clear ex_8
                refine lv_istore_n (lv' := [(2, .int x_8), (3, .int t3_c66), (0, .ref h), (1, .int k)]) hx hb dX8_count_88 rfl hl (by decide) rfl (fun ls hl => ?_)
                obtain ⟨x_9, ex_9⟩ : ∃ y : Int32, y = t3_c66 + Int32.ofInt 1 := ⟨_, rfl⟩
                refine lv_iinc (v := x_9) (lv' := [(3, .int x_9), (2, .int x_8), (0, .ref h), (1, .int k)]) hx hb dX8_count_89 hl (k := 1) rfl ex_9.symm (by decide) rfl (fun ls hl => ?_)
                have ex_9 : x_9 = t3_c66 + 1 := ex_9
                have e_9 : x_9.toInt = t3_c66.toInt + 1 := by rw [ex_9]; exact zi_add (rfl) (by decide) (by omega) (by omega)
                clear ex_9
                refine lv_goto (tgt := 66) hx hb dX8_count_92 (by decide) ?_
                exact ih66 x_9 x_8 _ _ _ (show 0 ≤ x_9.toInt ∧ x_9.toInt ≤ 8 from by omega) (by omega) (hP.sub [0, 1, 2] rfl) (hD.sub [0, 1, 2] (by decide) rfl) hS (lv_sub hl [0, 1, 2, 3] rfl)
        exact hL66 (((8 - (0 : Int32).toInt).toNat) + 1) 0 0 _ _ _ (show 0 ≤ 0 ∧ 0 ≤ 8 from by omega) (Nat.lt_succ_self _) (hP.sub [0, 1, 2] rfl) (hD.sub [0, 1, 2] (by decide) rfl) hS (lv_sub hl [0, 1, 2, 3] rfl)
      · refine lv_tableIn (off := 79) (tgt := 97) hx hb dX8_count_18 (by omega) (by omega) (by rw [g_2]; rfl) (by decide) ?_
        refine lv_aload_n hx hb dX8_count_97 rfl (lv_at hl 1 rfl) ?_
        refine va_get (D := D) (ci := 7) (v := .ref sl) (C := RX8) (T := TX8) (N := 16) hx hb hts (fun _ h => List.mem_cons_of_mem _ (List.mem_append_right _ h)) hown hK hP 0 rfl rfl 0 (by decide) (hts (.fieldLink RX8 7 "WinterWalkModel" "slot" "[I") (List.mem_of_getElem? (i := 4) rfl)) (fun _ h9 => h9) rfl dX8_count_98 ?_
        refine lv_iconst (v := 1) hx hb dX8_count_101 (by decide) ?_
        refine va_iald hx hb hK hP 1 0 rfl rfl (zi_in (by decide) (by decide)) dX8_count_102 ?_
        refine lv_topi (fun x_10 ex_10 => ?_)
        have f_10 : 0 ≤ x_10.toInt ∧ x_10.toInt ≤ 8 := by rw [ex_10]; exact si_v hsi (s := 0) (by decide) (by omega)
        have g_10 : x_10.toInt = v0 := by rw [ex_10]; exact hsi.2
        exact wr_i (v := x_10) hx hb hr hlocks hS () (by trivial) (hP.sub [0, 1, 2] rfl) (hD.sub [0, 1, 2] (by decide) rfl) dX8_count_103
      · refine lv_tableIn (off := 86) (tgt := 104) hx hb dX8_count_18 (by omega) (by omega) (by rw [g_2]; rfl) (by decide) ?_
        refine lv_aload_n hx hb dX8_count_104 rfl (lv_at hl 1 rfl) ?_
        refine va_get (D := D) (ci := 7) (v := .ref sl) (C := RX8) (T := TX8) (N := 16) hx hb hts (fun _ h => List.mem_cons_of_mem _ (List.mem_append_right _ h)) hown hK hP 0 rfl rfl 0 (by decide) (hts (.fieldLink RX8 7 "WinterWalkModel" "slot" "[I") (List.mem_of_getElem? (i := 4) rfl)) (fun _ h9 => h9) rfl dX8_count_105 ?_
        refine lv_iconst (v := 3) hx hb dX8_count_108 (by decide) ?_
        refine va_iald hx hb hK hP 1 0 rfl rfl (zi_in (by decide) (by decide)) dX8_count_109 ?_
        refine lv_topi (fun x_11 ex_11 => ?_)
        exact wr_i (v := x_11) hx hb hr hlocks hS () (by trivial) (hP.sub [0, 1, 2] rfl) (hD.sub [0, 1, 2] (by decide) rfl) dX8_count_110
      · refine lv_tableIn (off := 93) (tgt := 111) hx hb dX8_count_18 (by omega) (by omega) (by rw [g_2]; rfl) (by decide) ?_
        refine lv_aload_n hx hb dX8_count_111 rfl (lv_at hl 1 rfl) ?_
        refine va_get (D := D) (ci := 7) (v := .ref sl) (C := RX8) (T := TX8) (N := 16) hx hb hts (fun _ h => List.mem_cons_of_mem _ (List.mem_append_right _ h)) hown hK hP 0 rfl rfl 0 (by decide) (hts (.fieldLink RX8 7 "WinterWalkModel" "slot" "[I") (List.mem_of_getElem? (i := 4) rfl)) (fun _ h9 => h9) rfl dX8_count_112 ?_
        refine lv_iconst (v := 2) hx hb dX8_count_115 (by decide) ?_
        refine va_iald hx hb hK hP 1 0 rfl rfl (zi_in (by decide) (by decide)) dX8_count_116 ?_
        refine lv_topi (fun x_12 ex_12 => ?_)
        have f_12 : 0 ≤ x_12.toInt ∧ x_12.toInt ≤ 3 := by rw [ex_12]; exact si_w hsi (s := 0) (by decide) (by omega)
        exact wr_i (v := x_12) hx hb hr hlocks hS () (by trivial) (hP.sub [0, 1, 2] rfl) (hD.sub [0, 1, 2] (by decide) rfl) dX8_count_117
      · refine lv_tableIn (off := 100) (tgt := 118) hx hb dX8_count_18 (by omega) (by omega) (by rw [g_2]; rfl) (by decide) ?_
        refine lv_aload_n hx hb dX8_count_118 rfl (lv_at hl 1 rfl) ?_
        refine va_get (D := D) (ci := 7) (v := .ref sl) (C := RX8) (T := TX8) (N := 16) hx hb hts (fun _ h => List.mem_cons_of_mem _ (List.mem_append_right _ h)) hown hK hP 0 rfl rfl 0 (by decide) (hts (.fieldLink RX8 7 "WinterWalkModel" "slot" "[I") (List.mem_of_getElem? (i := 4) rfl)) (fun _ h9 => h9) rfl dX8_count_119 ?_
        refine lv_bipush (v := 54) hx hb dX8_count_122 (by decide) ?_
        refine va_iald hx hb hK hP 1 0 rfl rfl (zi_in (by decide) (by decide)) dX8_count_124 ?_
        refine lv_topi (fun x_13 ex_13 => ?_)
        exact wr_i (v := x_13) hx hb hr hlocks hS () (by trivial) (hP.sub [0, 1, 2] rfl) (hD.sub [0, 1, 2] (by decide) rfl) dX8_count_125
      · refine lv_tableIn (off := 108) (tgt := 126) hx hb dX8_count_18 (by omega) (by omega) (by rw [g_2]; rfl) (by decide) ?_
        refine lv_aload_n hx hb dX8_count_126 rfl (lv_at hl 1 rfl) ?_
        refine va_get (D := D) (ci := 7) (v := .ref sl) (C := RX8) (T := TX8) (N := 16) hx hb hts (fun _ h => List.mem_cons_of_mem _ (List.mem_append_right _ h)) hown hK hP 0 rfl rfl 0 (by decide) (hts (.fieldLink RX8 7 "WinterWalkModel" "slot" "[I") (List.mem_of_getElem? (i := 4) rfl)) (fun _ h9 => h9) rfl dX8_count_127 ?_
        refine lv_bipush (v := 55) hx hb dX8_count_130 (by decide) ?_
        refine va_iald hx hb hK hP 1 0 rfl rfl (zi_in (by decide) (by decide)) dX8_count_132 ?_
        refine lv_topi (fun x_14 ex_14 => ?_)
        exact wr_i (v := x_14) hx hb hr hlocks hS () (by trivial) (hP.sub [0, 1, 2] rfl) (hD.sub [0, 1, 2] (by decide) rfl) dX8_count_133
      · refine lv_tableIn (off := 116) (tgt := 134) hx hb dX8_count_18 (by omega) (by omega) (by rw [g_2]; rfl) (by decide) ?_
        refine lv_aload_n hx hb dX8_count_134 rfl (lv_at hl 1 rfl) ?_
        refine va_get (D := D) (ci := 7) (v := .ref sl) (C := RX8) (T := TX8) (N := 16) hx hb hts (fun _ h => List.mem_cons_of_mem _ (List.mem_append_right _ h)) hown hK hP 0 rfl rfl 0 (by decide) (hts (.fieldLink RX8 7 "WinterWalkModel" "slot" "[I") (List.mem_of_getElem? (i := 4) rfl)) (fun _ h9 => h9) rfl dX8_count_135 ?_
        refine lv_bipush (v := 56) hx hb dX8_count_138 (by decide) ?_
        refine va_iald hx hb hK hP 1 0 rfl rfl (zi_in (by decide) (by decide)) dX8_count_140 ?_
        refine lv_topi (fun x_15 ex_15 => ?_)
        exact wr_i (v := x_15) hx hb hr hlocks hS () (by trivial) (hP.sub [0, 1, 2] rfl) (hD.sub [0, 1, 2] (by decide) rfl) dX8_count_141
      · refine lv_tableIn (off := 124) (tgt := 142) hx hb dX8_count_18 (by omega) (by omega) (by rw [g_2]; rfl) (by decide) ?_
        refine lv_aload_n hx hb dX8_count_142 rfl (lv_at hl 1 rfl) ?_
        refine va_get (D := D) (ci := 7) (v := .int na) (C := RX8) (T := TX8) (N := 16) hx hb hts (fun _ h => List.mem_cons_of_mem _ (List.mem_append_right _ h)) hown hK hP 0 rfl rfl 1 (by decide) (hts (.fieldLink RX8 118 "WinterWalkModel" "acts" "I") (List.mem_of_getElem? (i := 5) rfl)) (fun _ h9 => h9) rfl dX8_count_143 ?_
        exact wr_i (v := na) hx hb hr hlocks hS () (by trivial) (hP.sub [0, 1, 2] rfl) (hD.sub [0, 1, 2] (by decide) rfl) dX8_count_146
  · subst e_1
    have f_1 : ¬ ((0 : Int) ≤ k.toInt ∧ k.toInt ≤ (8 : Int)) := by
      have h8 := f_1
      try simp only [zl_of] at h8
      exact h8
    refine lv_if_ne (tgt := 15) hx hb dX8_count_9 (by decide) (fun c9 => absurd (by decide) c9) (fun _ => ?_)
    refine lv_ldc (v := (-1000001)) hx hb hown (hts (.constant RX8 48 (-1000001)) (List.mem_of_getElem? (i := 2) rfl)) dX8_count_12 ?_
    exact wr_i (v := (-1000001)) hx hb hr hlocks hS () (by trivial) (hP.sub [0, 1, 2] rfl) (hD.sub [0, 1, 2] (by decide) rfl) dX8_count_14
