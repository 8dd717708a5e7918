set_option maxHeartbeats 4000000 in
set_option maxRecDepth 100000 in
theorem k_byteAt_00 (l : Launch) (D : va_G) (cI cB cQ : ClassId) (sz : Nat) (h : Nat) (tb : Nat) (dr : Nat) : mi l yX6_byteAt wsX6_byteAt ({ frames := 0, cells := 0, slots := 0, locals := 0 }) D cI cB cQ [.ref h, .int 0] sz [(h, .inr (5, [.ref tb, .ref dr, .int 0, .int 0, .int 0, .int 0, .int 0]))] (fun (r : Int32) (_u : Unit) => r = (-1)) (fun _ => [(h, .inr (5, [.ref tb, .ref dr, .int 0, .int 0, .int 0, .int 0, .int 0]))]) 0 0 := by
  refine wm_i (cc := cX6_byteAt) (maxL := 2) (ret := (some .int)) (by decide) rfl (Nat.le_of_ble_eq_true rfl) ?_
  intro p e s m below meth c A ls hx hb hr hml hown hts hlocks hin hP hK hD hN hA hl hS
  have hown : s.vm.findClass RX6 = some m.cls := hown
  have hl : lv_has ls 2 [(0, .ref h), (1, .int 0)] := hl
  change W p l e ({ frames := 0, cells := 0, slots := 0, locals := 0 }) s m ([.ref h, .int 0] : List Value).toArray below meth c s.heap [] 0 0 (MQ below (va_Qi (fun (r : Int32) (_u : Unit) => r = (-1)) (fun u t => wb D A ((fun _ => [(h, .inr (5, [.ref tb, .ref dr, .int 0, .int 0, .int 0, .int 0, .int 0]))]) u) t) A) ([.ref h, .int 0] : List Value).toArray s 0 0 A) (F0 m 0 ls [])
  refine lv_iload_n hx hb dX6_byteAt_0 rfl (lv_at hl 1 rfl) ?_
  refine lv_if_lt (tgt := 21) hx hb dX6_byteAt_1 (by decide) (fun c9 => absurd c9 (by decide)) (fun _ => ?_)
  refine lv_iload_n hx hb dX6_byteAt_4 rfl (lv_at hl 1 rfl) ?_
  refine lv_aload_n hx hb dX6_byteAt_5 rfl (lv_at hl 0 rfl) ?_
  refine va_get (D := D) (ci := 5) (v := .int 0) (C := RX6) (T := TX6) (N := 7) hx hb hts (fun _ h => List.mem_cons_of_mem _ (List.mem_append_right _ h)) hown hK hP 0 rfl rfl 2 (by decide) (hts (.fieldLink RX6 22 "WinterWalk$Tape" "length" "I") (List.mem_of_getElem? (i := 1) rfl)) (fun _ h9 => h9) rfl dX6_byteAt_6 ?_
  refine lv_icmp_ge (tgt := 21) hx hb dX6_byteAt_9 (by decide) (fun _ => ?_) (fun c9 => absurd (by decide) c9)
  refine lv_iconst (v := (-1)) hx hb dX6_byteAt_21 (by decide) ?_
  exact wr_i (v := (-1)) hx hb hr hlocks hS () (by rfl) (hP.sub [0] rfl) (hD.sub [0] (by decide) rfl) dX6_byteAt_22
set_option maxHeartbeats 4000000 in
set_option maxRecDepth 100000 in
theorem k_next_00 (l : Launch) (D : va_G) (cI cB cQ : ClassId) (sz : Nat) (h : Nat) (tb : Nat) (dr : Nat) : mi l yX6_next wsX6_next ({ frames := 1, cells := 0, slots := 0, locals := 21 }) D cI cB cQ [.ref h] sz [(h, .inr (5, [.ref tb, .ref dr, .int 0, .int 0, .int 0, .int 0, .int 0]))] (fun (r : Int32) (_u : Unit) => r = (-1)) (fun _ => [(h, .inr (5, [.ref tb, .ref dr, .int 0, .int 0, .int 0, .int 0, .int 0]))]) 0 0 := by
  refine wm_i (cc := cX6_next) (maxL := 1) (ret := (some .int)) (by decide) rfl (Nat.le_of_ble_eq_true rfl) ?_
  intro p e s m below meth c A ls hx hb hr hml hown hts hlocks hin hP hK hD hN hA hl hS
  have hown : s.vm.findClass RX6 = some m.cls := hown
  have hl : lv_has ls 1 [(0, .ref h)] := hl
  change W p l e ({ frames := 1, cells := 0, slots := 0, locals := 21 }) s m ([.ref h] : List Value).toArray below meth c s.heap [] 0 0 (MQ below (va_Qi (fun (r : Int32) (_u : Unit) => r = (-1)) (fun u t => wb D A ((fun _ => [(h, .inr (5, [.ref tb, .ref dr, .int 0, .int 0, .int 0, .int 0, .int 0]))]) u) t) A) ([.ref h] : List Value).toArray s 0 0 A) (F0 m 0 ls [])
  refine lv_aload_n hx hb dX6_next_0 rfl (lv_at hl 0 rfl) ?_
  refine va_get (D := D) (ci := 5) (v := .int 0) (C := RX6) (T := TX6) (N := 7) hx hb hts (fun _ h => List.mem_cons_of_mem _ (List.mem_append_right _ h)) hown hK hP 0 rfl rfl 6 (by decide) (hts (.fieldLink RX6 35 "WinterWalk$Tape" "faulty" "Z") (List.mem_of_getElem? (i := 1) rfl)) (fun _ h9 => h9) rfl dX6_next_1 ?_
  refine lv_if_eq (tgt := 11) hx hb dX6_next_4 (by decide) (fun _ => ?_) (fun c9 => absurd (by decide) c9)
  refine lv_aload_n hx hb dX6_next_11 rfl (lv_at hl 0 rfl) ?_
  refine lv_aload_n hx hb dX6_next_12 rfl (lv_at hl 0 rfl) ?_
  refine va_get (D := D) (ci := 5) (v := .int 0) (C := RX6) (T := TX6) (N := 7) hx hb hts (fun _ h => List.mem_cons_of_mem _ (List.mem_append_right _ h)) hown hK hP 0 rfl rfl 5 (by decide) (hts (.fieldLink RX6 32 "WinterWalk$Tape" "place" "I") (List.mem_of_getElem? (i := 2) rfl)) (fun _ h9 => h9) rfl dX6_next_13 ?_
  have k_1 := (k_byteAt_00 l D cI cB cQ s.heap.size h tb dr)
  refine wc_i (WC := [(h, .inr (5, [.ref tb, .ref dr, .int 0, .int 0, .int 0, .int 0, .int 0]))]) (WR := []) (va_runV (As := [.int 0]) (rest := []) ⟨hx, hb, hml, hown, hts⟩ k_1 (cwV 1 hts gX6_next_X6_byteAt rfl rfl rfl (by decide +kernel) ⟨Nat.le_of_ble_eq_true rfl, Nat.le_of_ble_eq_true rfl⟩) (wp_V hP hK hD hN [0] (by decide) rfl (ci := 5) rfl rfl) rfl rfl hl.1 rfl (lv_room (Nat.le_of_ble_eq_true rfl)) dX6_next_16 ⟨Nat.le_of_ble_eq_true rfl, Nat.le_of_ble_eq_true rfl⟩) hP hD hS hA [0] [] rfl rfl (by decide) (by decide) (fun r_1 u_1 H locs hw_1 hP hD hS => ?_)
  have hP : va_P D kl [(h, .inr (5, [.ref tb, .ref dr, .int 0, .int 0, .int 0, .int 0, .int 0]))] H := hP
  have hD : va_D A [(h, .inr (5, [.ref tb, .ref dr, .int 0, .int 0, .int 0, .int 0, .int 0]))] := hD
  obtain rfl : r_1 = (-1) := by first | exact hw_1 | exact hw_1.trans (by decide)
  exact wr_i (v := (-1)) hx hb hr hlocks hS () (by rfl) (hP.sub [0] rfl) (hD.sub [0] (by decide) rfl) dX6_next_19
set_option maxHeartbeats 4000000 in
set_option maxRecDepth 100000 in
theorem k_fail_00 (l : Launch) (D : va_G) (cI cB cQ : ClassId) (sz : Nat) (h : Nat) (tb : Nat) (dr : Nat) : mv l yX6_fail wsX6_fail ({ frames := 0, cells := 0, slots := 0, locals := 0 }) D cI cB cQ [.ref h, .int 1, .int 0] sz [(h, .inr (5, [.ref tb, .ref dr, .int 0, .int 0, .int 0, .int 0, .int 0]))] (fun (_u : Unit) => True) (fun _ => [(h, .inr (5, [.ref tb, .ref dr, .int 0, .int 1, .int 0, .int 0, .int 1]))]) 0 0 := by
  refine wm_v (cc := cX6_fail) (maxL := 3) (ret := none) (by decide) rfl (Nat.le_of_ble_eq_true rfl) ?_
  intro p e s m below meth c A ls hx hb hr hml hown hts hlocks hin hP hK hD hN hA hl hS
  have hown : s.vm.findClass RX6 = some m.cls := hown
  have hl : lv_has ls 3 [(0, .ref h), (1, .int 1), (2, .int 0)] := hl
  change W p l e ({ frames := 0, cells := 0, slots := 0, locals := 0 }) s m ([.ref h, .int 1, .int 0] : List Value).toArray below meth c s.heap [] 0 0 (MQ below (va_Qv (fun (_u : Unit) => True) (fun u t => wb D A ((fun _ => [(h, .inr (5, [.ref tb, .ref dr, .int 0, .int 1, .int 0, .int 0, .int 1]))]) u) t) A) ([.ref h, .int 1, .int 0] : List Value).toArray s 0 0 A) (F0 m 0 ls [])
  refine lv_aload_n hx hb dX6_fail_0 rfl (lv_at hl 0 rfl) ?_
  refine va_get (D := D) (ci := 5) (v := .int 0) (C := RX6) (T := TX6) (N := 7) hx hb hts (fun _ h => List.mem_cons_of_mem _ (List.mem_append_right _ h)) hown hK hP 0 rfl rfl 6 (by decide) (hts (.fieldLink RX6 35 "WinterWalk$Tape" "faulty" "Z") (List.mem_of_getElem? (i := 1) rfl)) (fun _ h9 => h9) rfl dX6_fail_1 ?_
  refine lv_if_ne (tgt := 22) hx hb dX6_fail_4 (by decide) (fun c9 => absurd (by decide) c9) (fun _ => ?_)
  refine lv_aload_n hx hb dX6_fail_7 rfl (lv_at hl 0 rfl) ?_
  refine lv_iconst (v := 1) hx hb dX6_fail_8 (by decide) ?_
  refine va_put (D := D) (ci := 5) (v := .int 1) (ty := .boolean) (C := RX6) (T := TX6) (N := 7) hx hb hts (fun _ h => List.mem_cons_of_mem _ (List.mem_append_right _ h)) tyX6 tyX6_ok nmX6 hown hK hP hD hS 0 rfl rfl 6 (by decide) (hts (.fieldLink RX6 35 "WinterWalk$Tape" "faulty" "Z") (List.mem_of_getElem? (i := 1) rfl)) (fun _ h9 => h9) rfl (by decide +kernel) rfl rfl (Nat.le_of_ble_eq_true rfl) dX6_fail_9 (fun H locs hP hD hS => ?_)
  have hP : va_P D kl [(h, .inr (5, [.ref tb, .ref dr, .int 0, .int 0, .int 0, .int 0, .int 1]))] H := hP
  have hD : va_D A [(h, .inr (5, [.ref tb, .ref dr, .int 0, .int 0, .int 0, .int 0, .int 1]))] := hD
  refine lv_aload_n hx hb dX6_fail_12 rfl (lv_at hl 0 rfl) ?_
  refine lv_iload_n hx hb dX6_fail_13 rfl (lv_at hl 1 rfl) ?_
  refine va_put (D := D) (ci := 5) (v := .int 1) (ty := .int) (C := RX6) (T := TX6) (N := 7) hx hb hts (fun _ h => List.mem_cons_of_mem _ (List.mem_append_right _ h)) tyX6 tyX6_ok nmX6 hown hK hP hD hS 0 rfl rfl 3 (by decide) (hts (.fieldLink RX6 26 "WinterWalk$Tape" "latestFault" "I") (List.mem_of_getElem? (i := 2) rfl)) (fun _ h9 => h9) rfl (by decide +kernel) rfl rfl (Nat.le_of_ble_eq_true rfl) dX6_fail_14 (fun H locs hP hD hS => ?_)
  have hP : va_P D kl [(h, .inr (5, [.ref tb, .ref dr, .int 0, .int 1, .int 0, .int 0, .int 1]))] H := hP
  have hD : va_D A [(h, .inr (5, [.ref tb, .ref dr, .int 0, .int 1, .int 0, .int 0, .int 1]))] := hD
  refine lv_aload_n hx hb dX6_fail_17 rfl (lv_at hl 0 rfl) ?_
  refine lv_iload_n hx hb dX6_fail_18 rfl (lv_at hl 2 rfl) ?_
  refine va_put (D := D) (ci := 5) (v := .int 0) (ty := .int) (C := RX6) (T := TX6) (N := 7) hx hb hts (fun _ h => List.mem_cons_of_mem _ (List.mem_append_right _ h)) tyX6 tyX6_ok nmX6 hown hK hP hD hS 0 rfl rfl 4 (by decide) (hts (.fieldLink RX6 29 "WinterWalk$Tape" "faultPlace" "I") (List.mem_of_getElem? (i := 3) rfl)) (fun _ h9 => h9) rfl (by decide +kernel) rfl rfl (Nat.le_of_ble_eq_true rfl) dX6_fail_19 (fun H locs hP hD hS => ?_)
  have hP : va_P D kl [(h, .inr (5, [.ref tb, .ref dr, .int 0, .int 1, .int 0, .int 0, .int 1]))] H := hP
  have hD : va_D A [(h, .inr (5, [.ref tb, .ref dr, .int 0, .int 1, .int 0, .int 0, .int 1]))] := hD
  exact wr_v hx hb hr hlocks hS () (by trivial) (hP.sub [0] rfl) (hD.sub [0] (by decide) rfl) dX6_fail_22
set_option maxHeartbeats 4000000 in
set_option maxRecDepth 100000 in
theorem k_byteAt_11 (l : Launch) (D : va_G) (cI cB cQ : ClassId) (sz : Nat) (h : Nat) (tb : Nat) (dr : Nat) : mi l yX6_byteAt wsX6_byteAt ({ frames := 0, cells := 0, slots := 0, locals := 0 }) D cI cB cQ [.ref h, .int 0] sz [(h, .inr (5, [.ref tb, .ref dr, .int 0, .int 1, .int 0, .int 0, .int 1]))] (fun (r : Int32) (_u : Unit) => r = (-1)) (fun _ => [(h, .inr (5, [.ref tb, .ref dr, .int 0, .int 1, .int 0, .int 0, .int 1]))]) 0 0 := by
  refine wm_i (cc := cX6_byteAt) (maxL := 2) (ret := (some .int)) (by decide) rfl (Nat.le_of_ble_eq_true rfl) ?_
  intro p e s m below meth c A ls hx hb hr hml hown hts hlocks hin hP hK hD hN hA hl hS
  have hown : s.vm.findClass RX6 = some m.cls := hown
  have hl : lv_has ls 2 [(0, .ref h), (1, .int 0)] := hl
  change W p l e ({ frames := 0, cells := 0, slots := 0, locals := 0 }) s m ([.ref h, .int 0] : List Value).toArray below meth c s.heap [] 0 0 (MQ below (va_Qi (fun (r : Int32) (_u : Unit) => r = (-1)) (fun u t => wb D A ((fun _ => [(h, .inr (5, [.ref tb, .ref dr, .int 0, .int 1, .int 0, .int 0, .int 1]))]) u) t) A) ([.ref h, .int 0] : List Value).toArray s 0 0 A) (F0 m 0 ls [])
  refine lv_iload_n hx hb dX6_byteAt_0 rfl (lv_at hl 1 rfl) ?_
  refine lv_if_lt (tgt := 21) hx hb dX6_byteAt_1 (by decide) (fun c9 => absurd c9 (by decide)) (fun _ => ?_)
  refine lv_iload_n hx hb dX6_byteAt_4 rfl (lv_at hl 1 rfl) ?_
  refine lv_aload_n hx hb dX6_byteAt_5 rfl (lv_at hl 0 rfl) ?_
  refine va_get (D := D) (ci := 5) (v := .int 0) (C := RX6) (T := TX6) (N := 7) hx hb hts (fun _ h => List.mem_cons_of_mem _ (List.mem_append_right _ h)) hown hK hP 0 rfl rfl 2 (by decide) (hts (.fieldLink RX6 22 "WinterWalk$Tape" "length" "I") (List.mem_of_getElem? (i := 1) rfl)) (fun _ h9 => h9) rfl dX6_byteAt_6 ?_
  refine lv_icmp_ge (tgt := 21) hx hb dX6_byteAt_9 (by decide) (fun _ => ?_) (fun c9 => absurd (by decide) c9)
  refine lv_iconst (v := (-1)) hx hb dX6_byteAt_21 (by decide) ?_
  exact wr_i (v := (-1)) hx hb hr hlocks hS () (by rfl) (hP.sub [0] rfl) (hD.sub [0] (by decide) rfl) dX6_byteAt_22
set_option maxHeartbeats 4000000 in
set_option maxRecDepth 100000 in
theorem k_next_11 (l : Launch) (D : va_G) (cI cB cQ : ClassId) (sz : Nat) (h : Nat) (tb : Nat) (dr : Nat) : mi l yX6_next wsX6_next ({ frames := 0, cells := 0, slots := 0, locals := 0 }) D cI cB cQ [.ref h] sz [(h, .inr (5, [.ref tb, .ref dr, .int 0, .int 1, .int 0, .int 0, .int 1]))] (fun (r : Int32) (_u : Unit) => r = (-1)) (fun _ => [(h, .inr (5, [.ref tb, .ref dr, .int 0, .int 1, .int 0, .int 0, .int 1]))]) 0 0 := by
  refine wm_i (cc := cX6_next) (maxL := 1) (ret := (some .int)) (by decide) rfl (Nat.le_of_ble_eq_true rfl) ?_
  intro p e s m below meth c A ls hx hb hr hml hown hts hlocks hin hP hK hD hN hA hl hS
  have hown : s.vm.findClass RX6 = some m.cls := hown
  have hl : lv_has ls 1 [(0, .ref h)] := hl
  change W p l e ({ frames := 0, cells := 0, slots := 0, locals := 0 }) s m ([.ref h] : List Value).toArray below meth c s.heap [] 0 0 (MQ below (va_Qi (fun (r : Int32) (_u : Unit) => r = (-1)) (fun u t => wb D A ((fun _ => [(h, .inr (5, [.ref tb, .ref dr, .int 0, .int 1, .int 0, .int 0, .int 1]))]) u) t) A) ([.ref h] : List Value).toArray s 0 0 A) (F0 m 0 ls [])
  refine lv_aload_n hx hb dX6_next_0 rfl (lv_at hl 0 rfl) ?_
  refine va_get (D := D) (ci := 5) (v := .int 1) (C := RX6) (T := TX6) (N := 7) hx hb hts (fun _ h => List.mem_cons_of_mem _ (List.mem_append_right _ h)) hown hK hP 0 rfl rfl 6 (by decide) (hts (.fieldLink RX6 35 "WinterWalk$Tape" "faulty" "Z") (List.mem_of_getElem? (i := 1) rfl)) (fun _ h9 => h9) rfl dX6_next_1 ?_
  refine lv_if_eq (tgt := 11) hx hb dX6_next_4 (by decide) (fun c9 => absurd c9 (by decide)) (fun _ => ?_)
  refine lv_iconst (v := (-1)) hx hb dX6_next_7 (by decide) ?_
  refine lv_goto (tgt := 19) hx hb dX6_next_8 (by decide) ?_
  exact wr_i (v := (-1)) hx hb hr hlocks hS () (by rfl) (hP.sub [0] rfl) (hD.sub [0] (by decide) rfl) dX6_next_19
set_option maxHeartbeats 4000000 in
set_option maxRecDepth 100000 in
theorem k_fail_11 (l : Launch) (D : va_G) (cI cB cQ : ClassId) (sz : Nat) (h : Nat) (tb : Nat) (dr : Nat) : mv l yX6_fail wsX6_fail ({ frames := 0, cells := 0, slots := 0, locals := 0 }) D cI cB cQ [.ref h, .int 1, .int 0] sz [(h, .inr (5, [.ref tb, .ref dr, .int 0, .int 1, .int 0, .int 0, .int 1]))] (fun (_u : Unit) => True) (fun _ => [(h, .inr (5, [.ref tb, .ref dr, .int 0, .int 1, .int 0, .int 0, .int 1]))]) 0 0 := by
  refine wm_v (cc := cX6_fail) (maxL := 3) (ret := none) (by decide) rfl (Nat.le_of_ble_eq_true rfl) ?_
  intro p e s m below meth c A ls hx hb hr hml hown hts hlocks hin hP hK hD hN hA hl hS
  have hown : s.vm.findClass RX6 = some m.cls := hown
  have hl : lv_has ls 3 [(0, .ref h), (1, .int 1), (2, .int 0)] := hl
  change W p l e ({ frames := 0, cells := 0, slots := 0, locals := 0 }) s m ([.ref h, .int 1, .int 0] : List Value).toArray below meth c s.heap [] 0 0 (MQ below (va_Qv (fun (_u : Unit) => True) (fun u t => wb D A ((fun _ => [(h, .inr (5, [.ref tb, .ref dr, .int 0, .int 1, .int 0, .int 0, .int 1]))]) u) t) A) ([.ref h, .int 1, .int 0] : List Value).toArray s 0 0 A) (F0 m 0 ls [])
  refine lv_aload_n hx hb dX6_fail_0 rfl (lv_at hl 0 rfl) ?_
  refine va_get (D := D) (ci := 5) (v := .int 1) (C := RX6) (T := TX6) (N := 7) hx hb hts (fun _ h => List.mem_cons_of_mem _ (List.mem_append_right _ h)) hown hK hP 0 rfl rfl 6 (by decide) (hts (.fieldLink RX6 35 "WinterWalk$Tape" "faulty" "Z") (List.mem_of_getElem? (i := 1) rfl)) (fun _ h9 => h9) rfl dX6_fail_1 ?_
  refine lv_if_ne (tgt := 22) hx hb dX6_fail_4 (by decide) (fun _ => ?_) (fun c9 => absurd c9 (by decide))
  exact wr_v hx hb hr hlocks hS () (by trivial) (hP.sub [0] rfl) (hD.sub [0] (by decide) rfl) dX6_fail_22
set_option maxHeartbeats 4000000 in
set_option maxRecDepth 100000 in
theorem k_takeSign102_00 (l : Launch) (D : va_G) (cI cB cQ : ClassId) (sz : Nat) (h : Nat) (tb : Nat) (dr : Nat) : mv l yX6_takeSign wsX6_takeSign ({ frames := 2, cells := 0, slots := 0, locals := 41 }) D cI cB cQ [.ref h, .int 102] sz [(h, .inr (5, [.ref tb, .ref dr, .int 0, .int 0, .int 0, .int 0, .int 0]))] (fun (_u : Unit) => True) (fun _ => [(h, .inr (5, [.ref tb, .ref dr, .int 0, .int 1, .int 0, .int 0, .int 1]))]) 0 0 := by
  refine wm_v (cc := cX6_takeSign) (maxL := 2) (ret := none) (by decide) rfl (Nat.le_of_ble_eq_true rfl) ?_
  intro p e s m below meth c A ls hx hb hr hml hown hts hlocks hin hP hK hD hN hA hl hS
  have hown : s.vm.findClass RX6 = some m.cls := hown
  have hl : lv_has ls 2 [(0, .ref h), (1, .int 102)] := hl
  change W p l e ({ frames := 2, cells := 0, slots := 0, locals := 41 }) s m ([.ref h, .int 102] : List Value).toArray below meth c s.heap [] 0 0 (MQ below (va_Qv (fun (_u : Unit) => True) (fun u t => wb D A ((fun _ => [(h, .inr (5, [.ref tb, .ref dr, .int 0, .int 1, .int 0, .int 0, .int 1]))]) u) t) A) ([.ref h, .int 102] : List Value).toArray s 0 0 A) (F0 m 0 ls [])
  refine lv_aload_n hx hb dX6_takeSign_0 rfl (lv_at hl 0 rfl) ?_
  have k_1 := (k_next_00 l D cI cB cQ s.heap.size h tb dr)
  refine wc_i (WC := [(h, .inr (5, [.ref tb, .ref dr, .int 0, .int 0, .int 0, .int 0, .int 0]))]) (WR := []) (va_runV (As := []) (rest := []) ⟨hx, hb, hml, hown, hts⟩ k_1 (cwV 0 hts gX6_takeSign_X6_next rfl rfl rfl (by decide +kernel) ⟨Nat.le_of_ble_eq_true rfl, Nat.le_of_ble_eq_true rfl⟩) (wp_V hP hK hD hN [0] (by decide) rfl (ci := 5) rfl rfl) rfl rfl hl.1 rfl (lv_room (Nat.le_of_ble_eq_true rfl)) dX6_takeSign_1 ⟨Nat.le_of_ble_eq_true rfl, Nat.le_of_ble_eq_true rfl⟩) hP hD hS hA [0] [] rfl rfl (by decide) (by decide) (fun r_1 u_1 H locs hw_1 hP hD hS => ?_)
  have hP : va_P D kl [(h, .inr (5, [.ref tb, .ref dr, .int 0, .int 0, .int 0, .int 0, .int 0]))] H := hP
  have hD : va_D A [(h, .inr (5, [.ref tb, .ref dr, .int 0, .int 0, .int 0, .int 0, .int 0]))] := hD
  obtain rfl : r_1 = (-1) := by first | exact hw_1 | exact hw_1.trans (by decide)
  refine lv_iload_n hx hb dX6_takeSign_4 rfl (lv_at hl 1 rfl) ?_
  refine lv_icmp_ne (tgt := 21) hx hb dX6_takeSign_5 (by decide) (fun _ => ?_) (fun c9 => absurd c9 (by decide))
  refine lv_aload_n hx hb dX6_takeSign_21 rfl (lv_at hl 0 rfl) ?_
  refine lv_iconst (v := 1) hx hb dX6_takeSign_22 (by decide) ?_
  refine lv_aload_n hx hb dX6_takeSign_23 rfl (lv_at hl 0 rfl) ?_
  refine va_get (D := D) (ci := 5) (v := .int 0) (C := RX6) (T := TX6) (N := 7) hx hb hts (fun _ h => List.mem_cons_of_mem _ (List.mem_append_right _ h)) hown hK hP 0 rfl rfl 5 (by decide) (hts (.fieldLink RX6 32 "WinterWalk$Tape" "place" "I") (List.mem_of_getElem? (i := 1) rfl)) (fun _ h9 => h9) rfl dX6_takeSign_24 ?_
  have k_2 := (k_fail_00 l D cI cB cQ H.size h tb dr)
  refine wc_v (WC := [(h, .inr (5, [.ref tb, .ref dr, .int 0, .int 0, .int 0, .int 0, .int 0]))]) (WR := []) (va_runV (As := [.int 1, .int 0]) (rest := []) ⟨hx, hb, hml, hown, hts⟩ k_2 (cwV 2 hts gX6_takeSign_X6_fail rfl rfl rfl (by decide +kernel) ⟨Nat.le_of_ble_eq_true rfl, Nat.le_of_ble_eq_true rfl⟩) (wp_V hP hK hD hN [0] (by decide) rfl (ci := 5) rfl rfl) rfl rfl hl.1 rfl (lv_room (Nat.le_of_ble_eq_true rfl)) dX6_takeSign_27 ⟨Nat.le_of_ble_eq_true rfl, Nat.le_of_ble_eq_true rfl⟩) hP hD hS hA [0] [] rfl rfl (by decide) (by decide) (fun u_2 H locs hw_2 hP hD hS => ?_)
  have hP : va_P D kl [(h, .inr (5, [.ref tb, .ref dr, .int 0, .int 1, .int 0, .int 0, .int 1]))] H := hP
  have hD : va_D A [(h, .inr (5, [.ref tb, .ref dr, .int 0, .int 1, .int 0, .int 0, .int 1]))] := hD
  exact wr_v hx hb hr hlocks hS () (by trivial) (hP.sub [0] rfl) (hD.sub [0] (by decide) rfl) dX6_takeSign_30
set_option maxHeartbeats 4000000 in
set_option maxRecDepth 100000 in
theorem k_takeSign59_11 (l : Launch) (D : va_G) (cI cB cQ : ClassId) (sz : Nat) (h : Nat) (tb : Nat) (dr : Nat) : mv l yX6_takeSign wsX6_takeSign ({ frames := 1, cells := 0, slots := 0, locals := 22 }) D cI cB cQ [.ref h, .int 59] sz [(h, .inr (5, [.ref tb, .ref dr, .int 0, .int 1, .int 0, .int 0, .int 1]))] (fun (_u : Unit) => True) (fun _ => [(h, .inr (5, [.ref tb, .ref dr, .int 0, .int 1, .int 0, .int 0, .int 1]))]) 0 0 := by
  refine wm_v (cc := cX6_takeSign) (maxL := 2) (ret := none) (by decide) rfl (Nat.le_of_ble_eq_true rfl) ?_
  intro p e s m below meth c A ls hx hb hr hml hown hts hlocks hin hP hK hD hN hA hl hS
  have hown : s.vm.findClass RX6 = some m.cls := hown
  have hl : lv_has ls 2 [(0, .ref h), (1, .int 59)] := hl
  change W p l e ({ frames := 1, cells := 0, slots := 0, locals := 22 }) s m ([.ref h, .int 59] : List Value).toArray below meth c s.heap [] 0 0 (MQ below (va_Qv (fun (_u : Unit) => True) (fun u t => wb D A ((fun _ => [(h, .inr (5, [.ref tb, .ref dr, .int 0, .int 1, .int 0, .int 0, .int 1]))]) u) t) A) ([.ref h, .int 59] : List Value).toArray s 0 0 A) (F0 m 0 ls [])
  refine lv_aload_n hx hb dX6_takeSign_0 rfl (lv_at hl 0 rfl) ?_
  have k_1 := (k_next_11 l D cI cB cQ s.heap.size h tb dr)
  refine wc_i (WC := [(h, .inr (5, [.ref tb, .ref dr, .int 0, .int 1, .int 0, .int 0, .int 1]))]) (WR := []) (va_runV (As := []) (rest := []) ⟨hx, hb, hml, hown, hts⟩ k_1 (cwV 0 hts gX6_takeSign_X6_next rfl rfl rfl (by decide +kernel) ⟨Nat.le_of_ble_eq_true rfl, Nat.le_of_ble_eq_true rfl⟩) (wp_V hP hK hD hN [0] (by decide) rfl (ci := 5) rfl rfl) rfl rfl hl.1 rfl (lv_room (Nat.le_of_ble_eq_true rfl)) dX6_takeSign_1 ⟨Nat.le_of_ble_eq_true rfl, Nat.le_of_ble_eq_true rfl⟩) hP hD hS hA [0] [] rfl rfl (by decide) (by decide) (fun r_1 u_1 H locs hw_1 hP hD hS => ?_)
  have hP : va_P D kl [(h, .inr (5, [.ref tb, .ref dr, .int 0, .int 1, .int 0, .int 0, .int 1]))] H := hP
  have hD : va_D A [(h, .inr (5, [.ref tb, .ref dr, .int 0, .int 1, .int 0, .int 0, .int 1]))] := hD
  obtain rfl : r_1 = (-1) := by first | exact hw_1 | exact hw_1.trans (by decide)
  refine lv_iload_n hx hb dX6_takeSign_4 rfl (lv_at hl 1 rfl) ?_
  refine lv_icmp_ne (tgt := 21) hx hb dX6_takeSign_5 (by decide) (fun _ => ?_) (fun c9 => absurd c9 (by decide))
  refine lv_aload_n hx hb dX6_takeSign_21 rfl (lv_at hl 0 rfl) ?_
  refine lv_iconst (v := 1) hx hb dX6_takeSign_22 (by decide) ?_
  refine lv_aload_n hx hb dX6_takeSign_23 rfl (lv_at hl 0 rfl) ?_
  refine va_get (D := D) (ci := 5) (v := .int 0) (C := RX6) (T := TX6) (N := 7) hx hb hts (fun _ h => List.mem_cons_of_mem _ (List.mem_append_right _ h)) hown hK hP 0 rfl rfl 5 (by decide) (hts (.fieldLink RX6 32 "WinterWalk$Tape" "place" "I") (List.mem_of_getElem? (i := 1) rfl)) (fun _ h9 => h9) rfl dX6_takeSign_24 ?_
  have k_2 := (k_fail_11 l D cI cB cQ H.size h tb dr)
  refine wc_v (WC := [(h, .inr (5, [.ref tb, .ref dr, .int 0, .int 1, .int 0, .int 0, .int 1]))]) (WR := []) (va_runV (As := [.int 1, .int 0]) (rest := []) ⟨hx, hb, hml, hown, hts⟩ k_2 (cwV 2 hts gX6_takeSign_X6_fail rfl rfl rfl (by decide +kernel) ⟨Nat.le_of_ble_eq_true rfl, Nat.le_of_ble_eq_true rfl⟩) (wp_V hP hK hD hN [0] (by decide) rfl (ci := 5) rfl rfl) rfl rfl hl.1 rfl (lv_room (Nat.le_of_ble_eq_true rfl)) dX6_takeSign_27 ⟨Nat.le_of_ble_eq_true rfl, Nat.le_of_ble_eq_true rfl⟩) hP hD hS hA [0] [] rfl rfl (by decide) (by decide) (fun u_2 H locs hw_2 hP hD hS => ?_)
  have hP : va_P D kl [(h, .inr (5, [.ref tb, .ref dr, .int 0, .int 1, .int 0, .int 0, .int 1]))] H := hP
  have hD : va_D A [(h, .inr (5, [.ref tb, .ref dr, .int 0, .int 1, .int 0, .int 0, .int 1]))] := hD
  exact wr_v hx hb hr hlocks hS () (by trivial) (hP.sub [0] rfl) (hD.sub [0] (by decide) rfl) dX6_takeSign_30
set_option maxHeartbeats 4000000 in
set_option maxRecDepth 100000 in
theorem k_figuresFrom_11 (l : Launch) (D : va_G) (cI cB cQ : ClassId) (sz : Nat) (h : Nat) (tb : Nat) (dr : Nat) : mi l yX6_figuresFrom wsX6_figuresFrom ({ frames := 0, cells := 0, slots := 0, locals := 0 }) D cI cB cQ [.ref h, .int 0] sz [(h, .inr (5, [.ref tb, .ref dr, .int 0, .int 1, .int 0, .int 0, .int 1]))] (fun (r : Int32) (_u : Unit) => r = 0) (fun _ => [(h, .inr (5, [.ref tb, .ref dr, .int 0, .int 1, .int 0, .int 0, .int 1]))]) 0 0 := by
  refine wm_i (cc := cX6_figuresFrom) (maxL := 4) (ret := (some .int)) (by decide) rfl (Nat.le_of_ble_eq_true rfl) ?_
  intro p e s m below meth c A ls hx hb hr hml hown hts hlocks hin hP hK hD hN hA hl hS
  have hown : s.vm.findClass RX6 = some m.cls := hown
  have hl : lv_has ls 4 [(0, .ref h), (1, .int 0)] := hl
  change W p l e ({ frames := 0, cells := 0, slots := 0, locals := 0 }) s m ([.ref h, .int 0] : List Value).toArray below meth c s.heap [] 0 0 (MQ below (va_Qi (fun (r : Int32) (_u : Unit) => r = 0) (fun u t => wb D A ((fun _ => [(h, .inr (5, [.ref tb, .ref dr, .int 0, .int 1, .int 0, .int 0, .int 1]))]) u) t) A) ([.ref h, .int 0] : List Value).toArray s 0 0 A) (F0 m 0 ls [])
  refine lv_iconst (v := 0) hx hb dX6_figuresFrom_0 (by decide) ?_
  refine lv_istore_n (lv' := [(2, .int 0), (0, .ref h), (1, .int 0)]) hx hb dX6_figuresFrom_1 rfl hl (by decide) rfl (fun ls hl => ?_)
  refine lv_iload_n hx hb dX6_figuresFrom_2 rfl (lv_at hl 2 rfl) ?_
  refine lv_istore_n (lv' := [(3, .int 0), (2, .int 0), (0, .ref h), (1, .int 0)]) hx hb dX6_figuresFrom_3 rfl hl (by decide) rfl (fun ls hl => ?_)
  refine lv_iload_n hx hb dX6_figuresFrom_4 rfl (lv_at hl 0 rfl) ?_
  refine lv_aload_n hx hb dX6_figuresFrom_5 rfl (lv_at hl 2 rfl) ?_
  refine va_get (D := D) (ci := 5) (v := .int 0) (C := RX6) (T := TX6) (N := 7) hx hb hts (fun _ h => List.mem_cons_of_mem _ (List.mem_append_right _ h)) hown hK hP 0 rfl rfl 2 (by decide) (hts (.fieldLink RX6 22 "WinterWalk$Tape" "length" "I") (List.mem_of_getElem? (i := 1) rfl)) (fun _ h9 => h9) rfl dX6_figuresFrom_6 ?_
  refine lv_icmp_ge (tgt := 36) hx hb dX6_figuresFrom_9 (by decide) (fun _ => ?_) (fun c9 => absurd (by decide) c9)
  refine lv_iload_n hx hb dX6_figuresFrom_36 rfl (lv_at hl 1 rfl) ?_
  exact wr_i (v := 0) hx hb hr hlocks hS () (by rfl) (hP.sub [0] rfl) (hD.sub [0] (by decide) rfl) dX6_figuresFrom_37
set_option maxHeartbeats 4000000 in
set_option maxRecDepth 100000 in
theorem k_takeNumber_11 (l : Launch) (D : va_G) (cI cB cQ : ClassId) (sz : Nat) (h : Nat) (tb : Nat) (dr : Nat) : mi l yX6_takeNumber wsX6_takeNumber ({ frames := 1, cells := 0, slots := 0, locals := 23 }) D cI cB cQ [.ref h, .int 1, .int 9] sz [(h, .inr (5, [.ref tb, .ref dr, .int 0, .int 1, .int 0, .int 0, .int 1]))] (fun (r : Int32) (_u : Unit) => r = 0) (fun _ => [(h, .inr (5, [.ref tb, .ref dr, .int 0, .int 1, .int 0, .int 0, .int 1]))]) 0 0 := by
  refine wm_i (cc := cX6_takeNumber) (maxL := 6) (ret := (some .int)) (by decide) rfl (Nat.le_of_ble_eq_true rfl) ?_
  intro p e s m below meth c A ls hx hb hr hml hown hts hlocks hin hP hK hD hN hA hl hS
  have hown : s.vm.findClass RX6 = some m.cls := hown
  have hl : lv_has ls 6 [(0, .ref h), (1, .int 1), (2, .int 9)] := hl
  change W p l e ({ frames := 1, cells := 0, slots := 0, locals := 23 }) s m ([.ref h, .int 1, .int 9] : List Value).toArray below meth c s.heap [] 0 0 (MQ below (va_Qi (fun (r : Int32) (_u : Unit) => r = 0) (fun u t => wb D A ((fun _ => [(h, .inr (5, [.ref tb, .ref dr, .int 0, .int 1, .int 0, .int 0, .int 1]))]) u) t) A) ([.ref h, .int 1, .int 9] : List Value).toArray s 0 0 A) (F0 m 0 ls [])
  refine lv_aload_n hx hb dX6_takeNumber_0 rfl (lv_at hl 0 rfl) ?_
  refine lv_aload_n hx hb dX6_takeNumber_1 rfl (lv_at hl 0 rfl) ?_
  refine va_get (D := D) (ci := 5) (v := .int 0) (C := RX6) (T := TX6) (N := 7) hx hb hts (fun _ h => List.mem_cons_of_mem _ (List.mem_append_right _ h)) hown hK hP 0 rfl rfl 5 (by decide) (hts (.fieldLink RX6 32 "WinterWalk$Tape" "place" "I") (List.mem_of_getElem? (i := 1) rfl)) (fun _ h9 => h9) rfl dX6_takeNumber_2 ?_
  have k_1 := (k_figuresFrom_11 l D cI cB cQ s.heap.size h tb dr)
  refine wc_i (WC := [(h, .inr (5, [.ref tb, .ref dr, .int 0, .int 1, .int 0, .int 0, .int 1]))]) (WR := []) (va_runV (As := [.int 0]) (rest := []) ⟨hx, hb, hml, hown, hts⟩ k_1 (cwV 1 hts gX6_takeNumber_X6_figuresFrom rfl rfl rfl (by decide +kernel) ⟨Nat.le_of_ble_eq_true rfl, Nat.le_of_ble_eq_true rfl⟩) (wp_V hP hK hD hN [0] (by decide) rfl (ci := 5) rfl rfl) rfl rfl hl.1 rfl (lv_room (Nat.le_of_ble_eq_true rfl)) dX6_takeNumber_5 ⟨Nat.le_of_ble_eq_true rfl, Nat.le_of_ble_eq_true rfl⟩) hP hD hS hA [0] [] rfl rfl (by decide) (by decide) (fun r_1 u_1 H locs hw_1 hP hD hS => ?_)
  have hP : va_P D kl [(h, .inr (5, [.ref tb, .ref dr, .int 0, .int 1, .int 0, .int 0, .int 1]))] H := hP
  have hD : va_D A [(h, .inr (5, [.ref tb, .ref dr, .int 0, .int 1, .int 0, .int 0, .int 1]))] := hD
  obtain rfl : r_1 = 0 := by first | exact hw_1 | exact hw_1.trans (by decide)
  refine lv_istore_n (lv' := [(3, .int 0), (0, .ref h), (1, .int 1), (2, .int 9)]) hx hb dX6_takeNumber_8 rfl hl (by decide) rfl (fun ls hl => ?_)
  refine lv_aload_n hx hb dX6_takeNumber_9 rfl (lv_at hl 1 rfl) ?_
  refine va_get (D := D) (ci := 5) (v := .int 1) (C := RX6) (T := TX6) (N := 7) hx hb hts (fun _ h => List.mem_cons_of_mem _ (List.mem_append_right _ h)) hown hK hP 0 rfl rfl 6 (by decide) (hts (.fieldLink RX6 35 "WinterWalk$Tape" "faulty" "Z") (List.mem_of_getElem? (i := 2) rfl)) (fun _ h9 => h9) rfl dX6_takeNumber_10 ?_
  refine lv_if_ne (tgt := 26) hx hb dX6_takeNumber_13 (by decide) (fun _ => ?_) (fun c9 => absurd c9 (by decide))
  refine lv_aload_n hx hb dX6_takeNumber_26 rfl (lv_at hl 1 rfl) ?_
  refine lv_iconst (v := 1) hx hb dX6_takeNumber_27 (by decide) ?_
  refine lv_aload_n hx hb dX6_takeNumber_28 rfl (lv_at hl 1 rfl) ?_
  refine va_get (D := D) (ci := 5) (v := .int 0) (C := RX6) (T := TX6) (N := 7) hx hb hts (fun _ h => List.mem_cons_of_mem _ (List.mem_append_right _ h)) hown hK hP 0 rfl rfl 5 (by decide) (hts (.fieldLink RX6 32 "WinterWalk$Tape" "place" "I") (List.mem_of_getElem? (i := 1) rfl)) (fun _ h9 => h9) rfl dX6_takeNumber_29 ?_
  have k_2 := (k_fail_11 l D cI cB cQ H.size h tb dr)
  refine wc_v (WC := [(h, .inr (5, [.ref tb, .ref dr, .int 0, .int 1, .int 0, .int 0, .int 1]))]) (WR := []) (va_runV (As := [.int 1, .int 0]) (rest := []) ⟨hx, hb, hml, hown, hts⟩ k_2 (cwV 2 hts gX6_takeNumber_X6_fail rfl rfl rfl (by decide +kernel) ⟨Nat.le_of_ble_eq_true rfl, Nat.le_of_ble_eq_true rfl⟩) (wp_V hP hK hD hN [0] (by decide) rfl (ci := 5) rfl rfl) rfl rfl hl.1 rfl (lv_room (Nat.le_of_ble_eq_true rfl)) dX6_takeNumber_32 ⟨Nat.le_of_ble_eq_true rfl, Nat.le_of_ble_eq_true rfl⟩) hP hD hS hA [0] [] rfl rfl (by decide) (by decide) (fun u_2 H locs hw_2 hP hD hS => ?_)
  have hP : va_P D kl [(h, .inr (5, [.ref tb, .ref dr, .int 0, .int 1, .int 0, .int 0, .int 1]))] H := hP
  have hD : va_D A [(h, .inr (5, [.ref tb, .ref dr, .int 0, .int 1, .int 0, .int 0, .int 1]))] := hD
  refine lv_iconst (v := 0) hx hb dX6_takeNumber_35 (by decide) ?_
  exact wr_i (v := 0) hx hb hr hlocks hS () (by rfl) (hP.sub [0] rfl) (hD.sub [0] (by decide) rfl) dX6_takeNumber_36
set_option maxHeartbeats 4000000 in
set_option maxRecDepth 100000 in
theorem k_readLaw_00 (l : Launch) (D : va_G) (cI cB cQ : ClassId) (sz : Nat) (h : Nat) (tb : Nat) (dr : Nat) (w0 : Nat) (w1 : Nat) (w2 : Nat) (w3 : Nat) (w4 : Nat) (w5 : Nat) (w6 : Nat) (w7 : Nat) : mv l yX6_readLaw wsX6_readLaw ({ frames := 3, cells := 0, slots := 0, locals := 62 }) D cI cB cQ [.ref h] sz [(h, .inr (5, [.ref tb, .ref dr, .int 0, .int 0, .int 0, .int 0, .int 0])), (dr, .inr (3, [.int 0, .int 0, .int 0, .int 0, .int 0, .int 0, .int 0, .int 0, .ref w0, .ref w1, .ref w2, .ref w3, .ref w4, .ref w5, .ref w6, .ref w7]))] (fun (_u : Unit) => True) (fun _ => [(h, .inr (5, [.ref tb, .ref dr, .int 0, .int 1, .int 0, .int 0, .int 1]))]) 0 0 := by
  refine wm_v (cc := cX6_readLaw) (maxL := 1) (ret := none) (by decide) rfl (Nat.le_of_ble_eq_true rfl) ?_
  intro p e s m below meth c A ls hx hb hr hml hown hts hlocks hin hP hK hD hN hA hl hS
  have hown : s.vm.findClass RX6 = some m.cls := hown
  have hl : lv_has ls 1 [(0, .ref h)] := hl
  change W p l e ({ frames := 3, cells := 0, slots := 0, locals := 62 }) s m ([.ref h] : List Value).toArray below meth c s.heap [] 0 0 (MQ below (va_Qv (fun (_u : Unit) => True) (fun u t => wb D A ((fun _ => [(h, .inr (5, [.ref tb, .ref dr, .int 0, .int 1, .int 0, .int 0, .int 1]))]) u) t) A) ([.ref h] : List Value).toArray s 0 0 A) (F0 m 0 ls [])
  refine lv_aload_n hx hb dX6_readLaw_0 rfl (lv_at hl 0 rfl) ?_
  refine lv_bipush (v := 102) hx hb dX6_readLaw_1 (by decide) ?_
  have k_1 := (k_takeSign102_00 l D cI cB cQ s.heap.size h tb dr)
  refine wc_v (WC := [(h, .inr (5, [.ref tb, .ref dr, .int 0, .int 0, .int 0, .int 0, .int 0]))]) (WR := [(dr, .inr (3, [.int 0, .int 0, .int 0, .int 0, .int 0, .int 0, .int 0, .int 0, .ref w0, .ref w1, .ref w2, .ref w3, .ref w4, .ref w5, .ref w6, .ref w7]))]) (va_runV (As := [.int 102]) (rest := []) ⟨hx, hb, hml, hown, hts⟩ k_1 (cwV 1 hts gX6_readLaw_X6_takeSign rfl rfl rfl (by decide +kernel) ⟨Nat.le_of_ble_eq_true rfl, Nat.le_of_ble_eq_true rfl⟩) (wp_V hP hK hD hN [0] (by decide) rfl (ci := 5) rfl rfl) rfl rfl hl.1 rfl (lv_room (Nat.le_of_ble_eq_true rfl)) dX6_readLaw_3 ⟨Nat.le_of_ble_eq_true rfl, Nat.le_of_ble_eq_true rfl⟩) hP hD hS hA [0] [1] rfl rfl (by decide) (by decide) (fun u_1 H locs hw_1 hP hD hS => ?_)
  have hP : va_P D kl [(dr, .inr (3, [.int 0, .int 0, .int 0, .int 0, .int 0, .int 0, .int 0, .int 0, .ref w0, .ref w1, .ref w2, .ref w3, .ref w4, .ref w5, .ref w6, .ref w7])), (h, .inr (5, [.ref tb, .ref dr, .int 0, .int 1, .int 0, .int 0, .int 1]))] H := hP
  have hD : va_D A [(dr, .inr (3, [.int 0, .int 0, .int 0, .int 0, .int 0, .int 0, .int 0, .int 0, .ref w0, .ref w1, .ref w2, .ref w3, .ref w4, .ref w5, .ref w6, .ref w7])), (h, .inr (5, [.ref tb, .ref dr, .int 0, .int 1, .int 0, .int 0, .int 1]))] := hD
  refine lv_aload_n hx hb dX6_readLaw_6 rfl (lv_at hl 0 rfl) ?_
  refine va_get (D := D) (ci := 5) (v := .ref dr) (C := RX6) (T := TX6) (N := 7) hx hb hts (fun _ h => List.mem_cons_of_mem _ (List.mem_append_left _ (List.mem_append_right _ h))) hown hK hP 1 rfl rfl 1 (by decide) (hts (.fieldLink RX6 18 "WinterWalk$Tape" "draft" "LWinterWalk$Land;") (List.mem_of_getElem? (i := 1) rfl)) (fun _ h9 => h9) rfl dX6_readLaw_7 ?_
  refine lv_aload_n hx hb dX6_readLaw_10 rfl (lv_at hl 0 rfl) ?_
  refine lv_iconst (v := 1) hx hb dX6_readLaw_11 (by decide) ?_
  refine lv_bipush (v := 9) hx hb dX6_readLaw_12 (by decide) ?_
  have k_2 := (k_takeNumber_11 l D cI cB cQ H.size h tb dr)
  refine wc_i (WC := [(h, .inr (5, [.ref tb, .ref dr, .int 0, .int 1, .int 0, .int 0, .int 1]))]) (WR := [(dr, .inr (3, [.int 0, .int 0, .int 0, .int 0, .int 0, .int 0, .int 0, .int 0, .ref w0, .ref w1, .ref w2, .ref w3, .ref w4, .ref w5, .ref w6, .ref w7]))]) (va_runV (As := [.int 1, .int 9]) (rest := [.ref dr]) ⟨hx, hb, hml, hown, hts⟩ k_2 (cwV 2 hts gX6_readLaw_X6_takeNumber rfl rfl rfl (by decide +kernel) ⟨Nat.le_of_ble_eq_true rfl, Nat.le_of_ble_eq_true rfl⟩) (wp_V hP hK hD hN [1] (by decide) rfl (ci := 5) rfl rfl) rfl rfl hl.1 rfl (lv_room (Nat.le_of_ble_eq_true rfl)) dX6_readLaw_14 ⟨Nat.le_of_ble_eq_true rfl, Nat.le_of_ble_eq_true rfl⟩) hP hD hS hA [1] [0] rfl rfl (by decide) (by decide) (fun r_2 u_2 H locs hw_2 hP hD hS => ?_)
  have hP : va_P D kl [(dr, .inr (3, [.int 0, .int 0, .int 0, .int 0, .int 0, .int 0, .int 0, .int 0, .ref w0, .ref w1, .ref w2, .ref w3, .ref w4, .ref w5, .ref w6, .ref w7])), (h, .inr (5, [.ref tb, .ref dr, .int 0, .int 1, .int 0, .int 0, .int 1]))] H := hP
  have hD : va_D A [(dr, .inr (3, [.int 0, .int 0, .int 0, .int 0, .int 0, .int 0, .int 0, .int 0, .ref w0, .ref w1, .ref w2, .ref w3, .ref w4, .ref w5, .ref w6, .ref w7])), (h, .inr (5, [.ref tb, .ref dr, .int 0, .int 1, .int 0, .int 0, .int 1]))] := hD
  obtain rfl : r_2 = 0 := by first | exact hw_2 | exact hw_2.trans (by decide)
  refine va_put (D := D) (ci := 3) (v := .int 0) (ty := .int) (C := RX4) (T := TX4) (N := 16) hx hb hts (fun _ h => List.mem_cons_of_mem _ (List.mem_append_right _ h)) tyX4 tyX4_ok nmX4 hown hK hP hD hS 0 rfl rfl 3 (by decide) (hts (.fieldLink RX6 70 "WinterWalk$Land" "lasts" "I") (List.mem_of_getElem? (i := 2) rfl)) (fun _ h9 => h9) rfl (by decide +kernel) rfl rfl (Nat.le_of_ble_eq_true rfl) dX6_readLaw_17 (fun H locs hP hD hS => ?_)
  have hP : va_P D kl [(dr, .inr (3, [.int 0, .int 0, .int 0, .int 0, .int 0, .int 0, .int 0, .int 0, .ref w0, .ref w1, .ref w2, .ref w3, .ref w4, .ref w5, .ref w6, .ref w7])), (h, .inr (5, [.ref tb, .ref dr, .int 0, .int 1, .int 0, .int 0, .int 1]))] H := hP
  have hD : va_D A [(dr, .inr (3, [.int 0, .int 0, .int 0, .int 0, .int 0, .int 0, .int 0, .int 0, .ref w0, .ref w1, .ref w2, .ref w3, .ref w4, .ref w5, .ref w6, .ref w7])), (h, .inr (5, [.ref tb, .ref dr, .int 0, .int 1, .int 0, .int 0, .int 1]))] := hD
  refine lv_aload_n hx hb dX6_readLaw_20 rfl (lv_at hl 0 rfl) ?_
  refine lv_bipush (v := 59) hx hb dX6_readLaw_21 (by decide) ?_
  have k_3 := (k_takeSign59_11 l D cI cB cQ H.size h tb dr)
  refine wc_v (WC := [(h, .inr (5, [.ref tb, .ref dr, .int 0, .int 1, .int 0, .int 0, .int 1]))]) (WR := [(dr, .inr (3, [.int 0, .int 0, .int 0, .int 0, .int 0, .int 0, .int 0, .int 0, .ref w0, .ref w1, .ref w2, .ref w3, .ref w4, .ref w5, .ref w6, .ref w7]))]) (va_runV (As := [.int 59]) (rest := []) ⟨hx, hb, hml, hown, hts⟩ k_3 (cwV 1 hts gX6_readLaw_X6_takeSign rfl rfl rfl (by decide +kernel) ⟨Nat.le_of_ble_eq_true rfl, Nat.le_of_ble_eq_true rfl⟩) (wp_V hP hK hD hN [1] (by decide) rfl (ci := 5) rfl rfl) rfl rfl hl.1 rfl (lv_room (Nat.le_of_ble_eq_true rfl)) dX6_readLaw_23 ⟨Nat.le_of_ble_eq_true rfl, Nat.le_of_ble_eq_true rfl⟩) hP hD hS hA [1] [0] rfl rfl (by decide) (by decide) (fun u_3 H locs hw_3 hP hD hS => ?_)
  have hP : va_P D kl [(dr, .inr (3, [.int 0, .int 0, .int 0, .int 0, .int 0, .int 0, .int 0, .int 0, .ref w0, .ref w1, .ref w2, .ref w3, .ref w4, .ref w5, .ref w6, .ref w7])), (h, .inr (5, [.ref tb, .ref dr, .int 0, .int 1, .int 0, .int 0, .int 1]))] H := hP
  have hD : va_D A [(dr, .inr (3, [.int 0, .int 0, .int 0, .int 0, .int 0, .int 0, .int 0, .int 0, .ref w0, .ref w1, .ref w2, .ref w3, .ref w4, .ref w5, .ref w6, .ref w7])), (h, .inr (5, [.ref tb, .ref dr, .int 0, .int 1, .int 0, .int 0, .int 1]))] := hD
  exact wr_v hx hb hr hlocks hS () (by trivial) (hP.sub [1] rfl) (hD.sub [1] (by decide) rfl) dX6_readLaw_26
set_option maxHeartbeats 4000000 in
set_option maxRecDepth 100000 in
theorem k_beginsVillage_11 (l : Launch) (D : va_G) (cI cB cQ : ClassId) (sz : Nat) (h : Nat) (tb : Nat) (dr : Nat) : mi l yX6_beginsVillage wsX6_beginsVillage ({ frames := 1, cells := 0, slots := 0, locals := 20 }) D cI cB cQ [.ref h] sz [(h, .inr (5, [.ref tb, .ref dr, .int 0, .int 1, .int 0, .int 0, .int 1]))] (fun (r : Int32) (_u : Unit) => r = 0) (fun _ => [(h, .inr (5, [.ref tb, .ref dr, .int 0, .int 1, .int 0, .int 0, .int 1]))]) 0 0 := by
  refine wm_i (cc := cX6_beginsVillage) (maxL := 1) (ret := (some .boolean)) (by decide) rfl (Nat.le_of_ble_eq_true rfl) ?_
  intro p e s m below meth c A ls hx hb hr hml hown hts hlocks hin hP hK hD hN hA hl hS
  have hown : s.vm.findClass RX6 = some m.cls := hown
  have hl : lv_has ls 1 [(0, .ref h)] := hl
  change W p l e ({ frames := 1, cells := 0, slots := 0, locals := 20 }) s m ([.ref h] : List Value).toArray below meth c s.heap [] 0 0 (MQ below (va_Qi (fun (r : Int32) (_u : Unit) => r = 0) (fun u t => wb D A ((fun _ => [(h, .inr (5, [.ref tb, .ref dr, .int 0, .int 1, .int 0, .int 0, .int 1]))]) u) t) A) ([.ref h] : List Value).toArray s 0 0 A) (F0 m 0 ls [])
  refine lv_aload_n hx hb dX6_beginsVillage_0 rfl (lv_at hl 0 rfl) ?_
  have k_1 := (k_next_11 l D cI cB cQ s.heap.size h tb dr)
  refine wc_i (WC := [(h, .inr (5, [.ref tb, .ref dr, .int 0, .int 1, .int 0, .int 0, .int 1]))]) (WR := []) (va_runV (As := []) (rest := []) ⟨hx, hb, hml, hown, hts⟩ k_1 (cwV 0 hts gX6_beginsVillage_X6_next rfl rfl rfl (by decide +kernel) ⟨Nat.le_of_ble_eq_true rfl, Nat.le_of_ble_eq_true rfl⟩) (wp_V hP hK hD hN [0] (by decide) rfl (ci := 5) rfl rfl) rfl rfl hl.1 rfl (lv_room (Nat.le_of_ble_eq_true rfl)) dX6_beginsVillage_1 ⟨Nat.le_of_ble_eq_true rfl, Nat.le_of_ble_eq_true rfl⟩) hP hD hS hA [0] [] rfl rfl (by decide) (by decide) (fun r_1 u_1 H locs hw_1 hP hD hS => ?_)
  have hP : va_P D kl [(h, .inr (5, [.ref tb, .ref dr, .int 0, .int 1, .int 0, .int 0, .int 1]))] H := hP
  have hD : va_D A [(h, .inr (5, [.ref tb, .ref dr, .int 0, .int 1, .int 0, .int 0, .int 1]))] := hD
  obtain rfl : r_1 = (-1) := by first | exact hw_1 | exact hw_1.trans (by decide)
  refine lv_bipush (v := 103) hx hb dX6_beginsVillage_4 (by decide) ?_
  refine lv_icmp_eq (tgt := 18) hx hb dX6_beginsVillage_6 (by decide) (fun c9 => absurd c9 (by decide)) (fun _ => ?_)
  refine lv_aload_n hx hb dX6_beginsVillage_9 rfl (lv_at hl 0 rfl) ?_
  have k_2 := (k_next_11 l D cI cB cQ H.size h tb dr)
  refine wc_i (WC := [(h, .inr (5, [.ref tb, .ref dr, .int 0, .int 1, .int 0, .int 0, .int 1]))]) (WR := []) (va_runV (As := []) (rest := []) ⟨hx, hb, hml, hown, hts⟩ k_2 (cwV 0 hts gX6_beginsVillage_X6_next rfl rfl rfl (by decide +kernel) ⟨Nat.le_of_ble_eq_true rfl, Nat.le_of_ble_eq_true rfl⟩) (wp_V hP hK hD hN [0] (by decide) rfl (ci := 5) rfl rfl) rfl rfl hl.1 rfl (lv_room (Nat.le_of_ble_eq_true rfl)) dX6_beginsVillage_10 ⟨Nat.le_of_ble_eq_true rfl, Nat.le_of_ble_eq_true rfl⟩) hP hD hS hA [0] [] rfl rfl (by decide) (by decide) (fun r_2 u_2 H locs hw_2 hP hD hS => ?_)
  have hP : va_P D kl [(h, .inr (5, [.ref tb, .ref dr, .int 0, .int 1, .int 0, .int 0, .int 1]))] H := hP
  have hD : va_D A [(h, .inr (5, [.ref tb, .ref dr, .int 0, .int 1, .int 0, .int 0, .int 1]))] := hD
  obtain rfl : r_2 = (-1) := by first | exact hw_2 | exact hw_2.trans (by decide)
  refine lv_bipush (v := 99) hx hb dX6_beginsVillage_13 (by decide) ?_
  refine lv_icmp_ne (tgt := 22) hx hb dX6_beginsVillage_15 (by decide) (fun _ => ?_) (fun c9 => absurd c9 (by decide))
  refine lv_iconst (v := 0) hx hb dX6_beginsVillage_22 (by decide) ?_
  exact wr_z (v := 0) hx hb hr hlocks hS () (by rfl) (hP.sub [0] rfl) (hD.sub [0] (by decide) rfl) dX6_beginsVillage_23 rfl
set_option maxHeartbeats 4000000 in
set_option maxRecDepth 100000 in
theorem k_readVillages_11 (l : Launch) (D : va_G) (cI cB cQ : ClassId) (sz : Nat) (h : Nat) (tb : Nat) (dr : Nat) : mv l yX6_readVillages wsX6_readVillages ({ frames := 2, cells := 0, slots := 0, locals := 40 }) D cI cB cQ [.ref h] sz [(h, .inr (5, [.ref tb, .ref dr, .int 0, .int 1, .int 0, .int 0, .int 1]))] (fun (_u : Unit) => True) (fun _ => [(h, .inr (5, [.ref tb, .ref dr, .int 0, .int 1, .int 0, .int 0, .int 1]))]) 0 0 := by
  refine wm_v (cc := cX6_readVillages) (maxL := 2) (ret := none) (by decide) rfl (Nat.le_of_ble_eq_true rfl) ?_
  intro p e s m below meth c A ls hx hb hr hml hown hts hlocks hin hP hK hD hN hA hl hS
  have hown : s.vm.findClass RX6 = some m.cls := hown
  have hl : lv_has ls 2 [(0, .ref h)] := hl
  change W p l e ({ frames := 2, cells := 0, slots := 0, locals := 40 }) s m ([.ref h] : List Value).toArray below meth c s.heap [] 0 0 (MQ below (va_Qv (fun (_u : Unit) => True) (fun u t => wb D A ((fun _ => [(h, .inr (5, [.ref tb, .ref dr, .int 0, .int 1, .int 0, .int 0, .int 1]))]) u) t) A) ([.ref h] : List Value).toArray s 0 0 A) (F0 m 0 ls [])
  refine lv_aload_n hx hb dX6_readVillages_0 rfl (lv_at hl 0 rfl) ?_
  have k_1 := (k_beginsVillage_11 l D cI cB cQ s.heap.size h tb dr)
  refine wc_i (WC := [(h, .inr (5, [.ref tb, .ref dr, .int 0, .int 1, .int 0, .int 0, .int 1]))]) (WR := []) (va_runV (As := []) (rest := []) ⟨hx, hb, hml, hown, hts⟩ k_1 (cwV 0 hts gX6_readVillages_X6_beginsVillage rfl rfl rfl (by decide +kernel) ⟨Nat.le_of_ble_eq_true rfl, Nat.le_of_ble_eq_true rfl⟩) (wp_V hP hK hD hN [0] (by decide) rfl (ci := 5) rfl rfl) rfl rfl hl.1 rfl (lv_room (Nat.le_of_ble_eq_true rfl)) dX6_readVillages_1 ⟨Nat.le_of_ble_eq_true rfl, Nat.le_of_ble_eq_true rfl⟩) hP hD hS hA [0] [] rfl rfl (by decide) (by decide) (fun r_1 u_1 H locs hw_1 hP hD hS => ?_)
  have hP : va_P D kl [(h, .inr (5, [.ref tb, .ref dr, .int 0, .int 1, .int 0, .int 0, .int 1]))] H := hP
  have hD : va_D A [(h, .inr (5, [.ref tb, .ref dr, .int 0, .int 1, .int 0, .int 0, .int 1]))] := hD
  obtain rfl : r_1 = 0 := by first | exact hw_1 | exact hw_1.trans (by decide)
  refine lv_if_ne (tgt := 16) hx hb dX6_readVillages_4 (by decide) (fun c9 => absurd (by decide) c9) (fun _ => ?_)
  refine lv_aload_n hx hb dX6_readVillages_7 rfl (lv_at hl 0 rfl) ?_
  refine lv_iconst (v := 1) hx hb dX6_readVillages_8 (by decide) ?_
  refine lv_aload_n hx hb dX6_readVillages_9 rfl (lv_at hl 0 rfl) ?_
  refine va_get (D := D) (ci := 5) (v := .int 0) (C := RX6) (T := TX6) (N := 7) hx hb hts (fun _ h => List.mem_cons_of_mem _ (List.mem_append_left _ (List.mem_append_right _ h))) hown hK hP 0 rfl rfl 5 (by decide) (hts (.fieldLink RX6 32 "WinterWalk$Tape" "place" "I") (List.mem_of_getElem? (i := 1) rfl)) (fun _ h9 => h9) rfl dX6_readVillages_10 ?_
  have k_2 := (k_fail_11 l D cI cB cQ H.size h tb dr)
  refine wc_v (WC := [(h, .inr (5, [.ref tb, .ref dr, .int 0, .int 1, .int 0, .int 0, .int 1]))]) (WR := []) (va_runV (As := [.int 1, .int 0]) (rest := []) ⟨hx, hb, hml, hown, hts⟩ k_2 (cwV 2 hts gX6_readVillages_X6_fail rfl rfl rfl (by decide +kernel) ⟨Nat.le_of_ble_eq_true rfl, Nat.le_of_ble_eq_true rfl⟩) (wp_V hP hK hD hN [0] (by decide) rfl (ci := 5) rfl rfl) rfl rfl hl.1 rfl (lv_room (Nat.le_of_ble_eq_true rfl)) dX6_readVillages_13 ⟨Nat.le_of_ble_eq_true rfl, Nat.le_of_ble_eq_true rfl⟩) hP hD hS hA [0] [] rfl rfl (by decide) (by decide) (fun u_2 H locs hw_2 hP hD hS => ?_)
  have hP : va_P D kl [(h, .inr (5, [.ref tb, .ref dr, .int 0, .int 1, .int 0, .int 0, .int 1]))] H := hP
  have hD : va_D A [(h, .inr (5, [.ref tb, .ref dr, .int 0, .int 1, .int 0, .int 0, .int 1]))] := hD
  refine lv_iconst (v := 0) hx hb dX6_readVillages_16 (by decide) ?_
  refine lv_istore_n (lv' := [(1, .int 0), (0, .ref h)]) hx hb dX6_readVillages_17 rfl hl (by decide) rfl (fun ls hl => ?_)
  refine lv_iload_n hx hb dX6_readVillages_18 rfl (lv_at hl 0 rfl) ?_
  refine lv_bipush (v := 120) hx hb dX6_readVillages_19 (by decide) ?_
  refine lv_icmp_ge (tgt := 41) hx hb dX6_readVillages_21 (by decide) (fun c9 => absurd c9 (by decide)) (fun _ => ?_)
  refine lv_aload_n hx hb dX6_readVillages_24 rfl (lv_at hl 1 rfl) ?_
  have k_3 := (k_beginsVillage_11 l D cI cB cQ H.size h tb dr)
  refine wc_i (WC := [(h, .inr (5, [.ref tb, .ref dr, .int 0, .int 1, .int 0, .int 0, .int 1]))]) (WR := []) (va_runV (As := []) (rest := []) ⟨hx, hb, hml, hown, hts⟩ k_3 (cwV 0 hts gX6_readVillages_X6_beginsVillage rfl rfl rfl (by decide +kernel) ⟨Nat.le_of_ble_eq_true rfl, Nat.le_of_ble_eq_true rfl⟩) (wp_V hP hK hD hN [0] (by decide) rfl (ci := 5) rfl rfl) rfl rfl hl.1 rfl (lv_room (Nat.le_of_ble_eq_true rfl)) dX6_readVillages_25 ⟨Nat.le_of_ble_eq_true rfl, Nat.le_of_ble_eq_true rfl⟩) hP hD hS hA [0] [] rfl rfl (by decide) (by decide) (fun r_3 u_3 H locs hw_3 hP hD hS => ?_)
  have hP : va_P D kl [(h, .inr (5, [.ref tb, .ref dr, .int 0, .int 1, .int 0, .int 0, .int 1]))] H := hP
  have hD : va_D A [(h, .inr (5, [.ref tb, .ref dr, .int 0, .int 1, .int 0, .int 0, .int 1]))] := hD
  obtain rfl : r_3 = 0 := by first | exact hw_3 | exact hw_3.trans (by decide)
  refine lv_if_eq (tgt := 41) hx hb dX6_readVillages_28 (by decide) (fun _ => ?_) (fun c9 => absurd (by decide) c9)
  exact wr_v hx hb hr hlocks hS () (by trivial) (hP.sub [0] rfl) (hD.sub [0] (by decide) rfl) dX6_readVillages_41
set_option maxHeartbeats 4000000 in
set_option maxRecDepth 100000 in
theorem k_readRoads_11 (l : Launch) (D : va_G) (cI cB cQ : ClassId) (sz : Nat) (h : Nat) (tb : Nat) (dr : Nat) : mv l yX6_readRoads wsX6_readRoads ({ frames := 1, cells := 0, slots := 0, locals := 20 }) D cI cB cQ [.ref h] sz [(h, .inr (5, [.ref tb, .ref dr, .int 0, .int 1, .int 0, .int 0, .int 1]))] (fun (_u : Unit) => True) (fun _ => [(h, .inr (5, [.ref tb, .ref dr, .int 0, .int 1, .int 0, .int 0, .int 1]))]) 0 0 := by
  refine wm_v (cc := cX6_readRoads) (maxL := 2) (ret := none) (by decide) rfl (Nat.le_of_ble_eq_true rfl) ?_
  intro p e s m below meth c A ls hx hb hr hml hown hts hlocks hin hP hK hD hN hA hl hS
  have hown : s.vm.findClass RX6 = some m.cls := hown
  have hl : lv_has ls 2 [(0, .ref h)] := hl
  change W p l e ({ frames := 1, cells := 0, slots := 0, locals := 20 }) s m ([.ref h] : List Value).toArray below meth c s.heap [] 0 0 (MQ below (va_Qv (fun (_u : Unit) => True) (fun u t => wb D A ((fun _ => [(h, .inr (5, [.ref tb, .ref dr, .int 0, .int 1, .int 0, .int 0, .int 1]))]) u) t) A) ([.ref h] : List Value).toArray s 0 0 A) (F0 m 0 ls [])
  refine lv_iconst (v := 0) hx hb dX6_readRoads_0 (by decide) ?_
  refine lv_istore_n (lv' := [(1, .int 0), (0, .ref h)]) hx hb dX6_readRoads_1 rfl hl (by decide) rfl (fun ls hl => ?_)
  refine lv_iload_n hx hb dX6_readRoads_2 rfl (lv_at hl 0 rfl) ?_
  refine lv_bipush (v := 120) hx hb dX6_readRoads_3 (by decide) ?_
  refine lv_icmp_ge (tgt := 27) hx hb dX6_readRoads_5 (by decide) (fun c9 => absurd c9 (by decide)) (fun _ => ?_)
  refine lv_aload_n hx hb dX6_readRoads_8 rfl (lv_at hl 1 rfl) ?_
  have k_1 := (k_next_11 l D cI cB cQ s.heap.size h tb dr)
  refine wc_i (WC := [(h, .inr (5, [.ref tb, .ref dr, .int 0, .int 1, .int 0, .int 0, .int 1]))]) (WR := []) (va_runV (As := []) (rest := []) ⟨hx, hb, hml, hown, hts⟩ k_1 (cwV 0 hts gX6_readRoads_X6_next rfl rfl rfl (by decide +kernel) ⟨Nat.le_of_ble_eq_true rfl, Nat.le_of_ble_eq_true rfl⟩) (wp_V hP hK hD hN [0] (by decide) rfl (ci := 5) rfl rfl) rfl rfl hl.1 rfl (lv_room (Nat.le_of_ble_eq_true rfl)) dX6_readRoads_9 ⟨Nat.le_of_ble_eq_true rfl, Nat.le_of_ble_eq_true rfl⟩) hP hD hS hA [0] [] rfl rfl (by decide) (by decide) (fun r_1 u_1 H locs hw_1 hP hD hS => ?_)
  have hP : va_P D kl [(h, .inr (5, [.ref tb, .ref dr, .int 0, .int 1, .int 0, .int 0, .int 1]))] H := hP
  have hD : va_D A [(h, .inr (5, [.ref tb, .ref dr, .int 0, .int 1, .int 0, .int 0, .int 1]))] := hD
  obtain rfl : r_1 = (-1) := by first | exact hw_1 | exact hw_1.trans (by decide)
  refine lv_bipush (v := 114) hx hb dX6_readRoads_12 (by decide) ?_
  refine lv_icmp_ne (tgt := 27) hx hb dX6_readRoads_14 (by decide) (fun _ => ?_) (fun c9 => absurd c9 (by decide))
  exact wr_v hx hb hr hlocks hS () (by trivial) (hP.sub [0] rfl) (hD.sub [0] (by decide) rfl) dX6_readRoads_27
set_option maxHeartbeats 4000000 in
set_option maxRecDepth 100000 in
theorem k_kindOfLetter (l : Launch) (D : va_G) (cI cB cQ : ClassId) (sz : Nat) : mi l yX6_kindOfLetter wsX6_kindOfLetter ({ frames := 0, cells := 0, slots := 0, locals := 0 }) D cI cB cQ [.int (-1)] sz [] (fun (r : Int32) (_u : Unit) => r = 0) (fun _ => []) 0 0 := by
  refine wm_i (cc := cX6_kindOfLetter) (maxL := 1) (ret := (some .int)) (by decide) rfl (Nat.le_of_ble_eq_true rfl) ?_
  intro p e s m below meth c A ls hx hb hr hml hown hts hlocks hin hP hK hD hN hA hl hS
  have hown : s.vm.findClass RX6 = some m.cls := hown
  have hl : lv_has ls 1 [(0, .int (-1))] := hl
  change W p l e ({ frames := 0, cells := 0, slots := 0, locals := 0 }) s m ([.int (-1)] : List Value).toArray below meth c s.heap [] 0 0 (MQ below (va_Qi (fun (r : Int32) (_u : Unit) => r = 0) (fun u t => wb D A ((fun _ => []) u) t) A) ([.int (-1)] : List Value).toArray s 0 0 A) (F0 m 0 ls [])
  refine lv_iload_n hx hb dX6_kindOfLetter_0 rfl (lv_at hl 0 rfl) ?_
  refine lv_lookup (off := 61) (tgt := 62) hx hb dX6_kindOfLetter_1 (by decide) rfl (by decide) ?_
  refine lv_iconst (v := 0) hx hb dX6_kindOfLetter_62 (by decide) ?_
  exact wr_i (v := 0) hx hb hr hlocks hS () (by rfl) (hP.sub [] rfl) (hD.sub [] (by decide) rfl) dX6_kindOfLetter_63
set_option maxHeartbeats 4000000 in
set_option maxRecDepth 100000 in
theorem k_readWalkers_11 (l : Launch) (D : va_G) (cI cB cQ : ClassId) (sz : Nat) (h : Nat) (tb : Nat) (dr : Nat) : mv l yX6_readWalkers wsX6_readWalkers ({ frames := 1, cells := 0, slots := 0, locals := 20 }) D cI cB cQ [.ref h] sz [(h, .inr (5, [.ref tb, .ref dr, .int 0, .int 1, .int 0, .int 0, .int 1]))] (fun (_u : Unit) => True) (fun _ => [(h, .inr (5, [.ref tb, .ref dr, .int 0, .int 1, .int 0, .int 0, .int 1]))]) 0 0 := by
  refine wm_v (cc := cX6_readWalkers) (maxL := 2) (ret := none) (by decide) rfl (Nat.le_of_ble_eq_true rfl) ?_
  intro p e s m below meth c A ls hx hb hr hml hown hts hlocks hin hP hK hD hN hA hl hS
  have hown : s.vm.findClass RX6 = some m.cls := hown
  have hl : lv_has ls 2 [(0, .ref h)] := hl
  change W p l e ({ frames := 1, cells := 0, slots := 0, locals := 20 }) s m ([.ref h] : List Value).toArray below meth c s.heap [] 0 0 (MQ below (va_Qv (fun (_u : Unit) => True) (fun u t => wb D A ((fun _ => [(h, .inr (5, [.ref tb, .ref dr, .int 0, .int 1, .int 0, .int 0, .int 1]))]) u) t) A) ([.ref h] : List Value).toArray s 0 0 A) (F0 m 0 ls [])
  refine lv_iconst (v := 0) hx hb dX6_readWalkers_0 (by decide) ?_
  refine lv_istore_n (lv' := [(1, .int 0), (0, .ref h)]) hx hb dX6_readWalkers_1 rfl hl (by decide) rfl (fun ls hl => ?_)
  refine lv_iload_n hx hb dX6_readWalkers_2 rfl (lv_at hl 0 rfl) ?_
  refine lv_bipush (v := 120) hx hb dX6_readWalkers_3 (by decide) ?_
  refine lv_icmp_ge (tgt := 28) hx hb dX6_readWalkers_5 (by decide) (fun c9 => absurd c9 (by decide)) (fun _ => ?_)
  refine lv_aload_n hx hb dX6_readWalkers_8 rfl (lv_at hl 1 rfl) ?_
  have k_1 := (k_next_11 l D cI cB cQ s.heap.size h tb dr)
  refine wc_i (WC := [(h, .inr (5, [.ref tb, .ref dr, .int 0, .int 1, .int 0, .int 0, .int 1]))]) (WR := []) (va_runV (As := []) (rest := []) ⟨hx, hb, hml, hown, hts⟩ k_1 (cwV 0 hts gX6_readWalkers_X6_next rfl rfl rfl (by decide +kernel) ⟨Nat.le_of_ble_eq_true rfl, Nat.le_of_ble_eq_true rfl⟩) (wp_V hP hK hD hN [0] (by decide) rfl (ci := 5) rfl rfl) rfl rfl hl.1 rfl (lv_room (Nat.le_of_ble_eq_true rfl)) dX6_readWalkers_9 ⟨Nat.le_of_ble_eq_true rfl, Nat.le_of_ble_eq_true rfl⟩) hP hD hS hA [0] [] rfl rfl (by decide) (by decide) (fun r_1 u_1 H locs hw_1 hP hD hS => ?_)
  have hP : va_P D kl [(h, .inr (5, [.ref tb, .ref dr, .int 0, .int 1, .int 0, .int 0, .int 1]))] H := hP
  have hD : va_D A [(h, .inr (5, [.ref tb, .ref dr, .int 0, .int 1, .int 0, .int 0, .int 1]))] := hD
  obtain rfl : r_1 = (-1) := by first | exact hw_1 | exact hw_1.trans (by decide)
  have k_2 := (k_kindOfLetter l D cI cB cQ H.size)
  refine wc_i (WC := []) (WR := [(h, .inr (5, [.ref tb, .ref dr, .int 0, .int 1, .int 0, .int 0, .int 1]))]) (va_runS (As := [.int (-1)]) (rest := []) ⟨hx, hb, hml, hown, hts⟩ k_2 (va_cwS 1 hts gX6_readWalkers_X6_kindOfLetter rfl rfl rfl (by decide +kernel) ⟨Nat.le_of_ble_eq_true rfl, Nat.le_of_ble_eq_true rfl⟩) (wp_S hP hK hD hN [] (by decide) rfl) rfl rfl hl.1 rfl (lv_room (Nat.le_of_ble_eq_true rfl)) dX6_readWalkers_12 ⟨Nat.le_of_ble_eq_true rfl, Nat.le_of_ble_eq_true rfl⟩) hP hD hS hA [] [0] rfl rfl (by decide) (by decide) (fun r_2 u_2 H locs hw_2 hP hD hS => ?_)
  have hP : va_P D kl [(h, .inr (5, [.ref tb, .ref dr, .int 0, .int 1, .int 0, .int 0, .int 1]))] H := hP
  have hD : va_D A [(h, .inr (5, [.ref tb, .ref dr, .int 0, .int 1, .int 0, .int 0, .int 1]))] := hD
  obtain rfl : r_2 = 0 := by first | exact hw_2 | exact hw_2.trans (by decide)
  refine lv_if_eq (tgt := 28) hx hb dX6_readWalkers_15 (by decide) (fun _ => ?_) (fun c9 => absurd (by decide) c9)
  exact wr_v hx hb hr hlocks hS () (by trivial) (hP.sub [0] rfl) (hD.sub [0] (by decide) rfl) dX6_readWalkers_28
set_option maxHeartbeats 4000000 in
set_option maxRecDepth 100000 in
theorem k_readInto_00 (l : Launch) (D : va_G) (cI cB cQ : ClassId) (sz : Nat) (h : Nat) (tb : Nat) (dr : Nat) (w0 : Nat) (w1 : Nat) (w2 : Nat) (w3 : Nat) (w4 : Nat) (w5 : Nat) (w6 : Nat) (w7 : Nat) (nw : Nat) : mi l yX6_readInto wsX6_readInto ({ frames := 4, cells := 0, slots := 0, locals := 82 }) D cI cB cQ [.ref h, .ref nw] sz [(h, .inr (5, [.ref tb, .ref dr, .int 0, .int 0, .int 0, .int 0, .int 0])), (dr, .inr (3, [.int 0, .int 0, .int 0, .int 0, .int 0, .int 0, .int 0, .int 0, .ref w0, .ref w1, .ref w2, .ref w3, .ref w4, .ref w5, .ref w6, .ref w7])), (w2, .inl (cI, 8, .inl (fun _ => 0))), (w3, .inl (cI, 8, .inl (fun _ => 0))), (w4, .inl (cI, 8, .inl (fun _ => 0)))] (fun (r : Int32) (_u : Unit) => r = 0) (fun _ => [(h, .inr (5, [.ref tb, .ref dr, .int 0, .int 1, .int 0, .int 0, .int 1]))]) 0 0 := by
  refine wm_i (cc := cX6_readInto) (maxL := 2) (ret := (some .boolean)) (by decide) rfl (Nat.le_of_ble_eq_true rfl) ?_
  intro p e s m below meth c A ls hx hb hr hml hown hts hlocks hin hP hK hD hN hA hl hS
  have hown : s.vm.findClass RX6 = some m.cls := hown
  have hl : lv_has ls 2 [(0, .ref h), (1, .ref nw)] := hl
  change W p l e ({ frames := 4, cells := 0, slots := 0, locals := 82 }) s m ([.ref h, .ref nw] : List Value).toArray below meth c s.heap [] 0 0 (MQ below (va_Qi (fun (r : Int32) (_u : Unit) => r = 0) (fun u t => wb D A ((fun _ => [(h, .inr (5, [.ref tb, .ref dr, .int 0, .int 1, .int 0, .int 0, .int 1]))]) u) t) A) ([.ref h, .ref nw] : List Value).toArray s 0 0 A) (F0 m 0 ls [])
  refine lv_aload_n hx hb dX6_readInto_0 rfl (lv_at hl 0 rfl) ?_
  refine lv_iconst (v := 0) hx hb dX6_readInto_1 (by decide) ?_
  refine va_put (D := D) (ci := 5) (v := .int 0) (ty := .int) (C := RX6) (T := TX6) (N := 7) hx hb hts (fun _ h => List.mem_cons_of_mem _ (List.mem_append_left _ (List.mem_append_right _ h))) tyX6 tyX6_ok nmX6 hown hK hP hD hS 0 rfl rfl 5 (by decide) (hts (.fieldLink RX6 32 "WinterWalk$Tape" "place" "I") (List.mem_of_getElem? (i := 1) rfl)) (fun _ h9 => h9) rfl (by decide +kernel) rfl rfl (Nat.le_of_ble_eq_true rfl) dX6_readInto_2 (fun H locs hP hD hS => ?_)
  have hP : va_P D kl [(h, .inr (5, [.ref tb, .ref dr, .int 0, .int 0, .int 0, .int 0, .int 0])), (dr, .inr (3, [.int 0, .int 0, .int 0, .int 0, .int 0, .int 0, .int 0, .int 0, .ref w0, .ref w1, .ref w2, .ref w3, .ref w4, .ref w5, .ref w6, .ref w7])), (w2, .inl (cI, 8, .inl (fun _ => 0))), (w3, .inl (cI, 8, .inl (fun _ => 0))), (w4, .inl (cI, 8, .inl (fun _ => 0)))] H := hP
  have hD : va_D A [(h, .inr (5, [.ref tb, .ref dr, .int 0, .int 0, .int 0, .int 0, .int 0])), (dr, .inr (3, [.int 0, .int 0, .int 0, .int 0, .int 0, .int 0, .int 0, .int 0, .ref w0, .ref w1, .ref w2, .ref w3, .ref w4, .ref w5, .ref w6, .ref w7])), (w2, .inl (cI, 8, .inl (fun _ => 0))), (w3, .inl (cI, 8, .inl (fun _ => 0))), (w4, .inl (cI, 8, .inl (fun _ => 0)))] := hD
  refine lv_aload_n hx hb dX6_readInto_5 rfl (lv_at hl 0 rfl) ?_
  refine lv_iconst (v := 0) hx hb dX6_readInto_6 (by decide) ?_
  refine va_put (D := D) (ci := 5) (v := .int 0) (ty := .boolean) (C := RX6) (T := TX6) (N := 7) hx hb hts (fun _ h => List.mem_cons_of_mem _ (List.mem_append_left _ (List.mem_append_right _ h))) tyX6 tyX6_ok nmX6 hown hK hP hD hS 0 rfl rfl 6 (by decide) (hts (.fieldLink RX6 35 "WinterWalk$Tape" "faulty" "Z") (List.mem_of_getElem? (i := 2) rfl)) (fun _ h9 => h9) rfl (by decide +kernel) rfl rfl (Nat.le_of_ble_eq_true rfl) dX6_readInto_7 (fun H locs hP hD hS => ?_)
  have hP : va_P D kl [(h, .inr (5, [.ref tb, .ref dr, .int 0, .int 0, .int 0, .int 0, .int 0])), (dr, .inr (3, [.int 0, .int 0, .int 0, .int 0, .int 0, .int 0, .int 0, .int 0, .ref w0, .ref w1, .ref w2, .ref w3, .ref w4, .ref w5, .ref w6, .ref w7])), (w2, .inl (cI, 8, .inl (fun _ => 0))), (w3, .inl (cI, 8, .inl (fun _ => 0))), (w4, .inl (cI, 8, .inl (fun _ => 0)))] H := hP
  have hD : va_D A [(h, .inr (5, [.ref tb, .ref dr, .int 0, .int 0, .int 0, .int 0, .int 0])), (dr, .inr (3, [.int 0, .int 0, .int 0, .int 0, .int 0, .int 0, .int 0, .int 0, .ref w0, .ref w1, .ref w2, .ref w3, .ref w4, .ref w5, .ref w6, .ref w7])), (w2, .inl (cI, 8, .inl (fun _ => 0))), (w3, .inl (cI, 8, .inl (fun _ => 0))), (w4, .inl (cI, 8, .inl (fun _ => 0)))] := hD
  refine lv_aload_n hx hb dX6_readInto_10 rfl (lv_at hl 0 rfl) ?_
  refine va_get (D := D) (ci := 5) (v := .ref dr) (C := RX6) (T := TX6) (N := 7) hx hb hts (fun _ h => List.mem_cons_of_mem _ (List.mem_append_left _ (List.mem_append_right _ h))) hown hK hP 0 rfl rfl 1 (by decide) (hts (.fieldLink RX6 18 "WinterWalk$Tape" "draft" "LWinterWalk$Land;") (List.mem_of_getElem? (i := 3) rfl)) (fun _ h9 => h9) rfl dX6_readInto_11 ?_
  have k_1 := (k_becomeNone l D cI cB cQ H.size dr w0 w1 w2 w3 w4 w5 w6 w7)
  refine wc_v (WC := [(dr, .inr (3, [.int 0, .int 0, .int 0, .int 0, .int 0, .int 0, .int 0, .int 0, .ref w0, .ref w1, .ref w2, .ref w3, .ref w4, .ref w5, .ref w6, .ref w7])), (w2, .inl (cI, 8, .inl (fun _ => 0))), (w3, .inl (cI, 8, .inl (fun _ => 0))), (w4, .inl (cI, 8, .inl (fun _ => 0)))]) (WR := [(h, .inr (5, [.ref tb, .ref dr, .int 0, .int 0, .int 0, .int 0, .int 0]))]) (va_runV (As := []) (rest := []) ⟨hx, hb, hml, hown, hts⟩ k_1 (cwV 0 hts gX6_readInto_X4_becomeNone rfl rfl rfl (by decide +kernel) ⟨Nat.le_of_ble_eq_true rfl, Nat.le_of_ble_eq_true rfl⟩) (wp_V hP hK hD hN [1, 2, 3, 4] (by decide) rfl (ci := 3) rfl rfl) rfl rfl hl.1 rfl (lv_room (Nat.le_of_ble_eq_true rfl)) dX6_readInto_14 ⟨Nat.le_of_ble_eq_true rfl, Nat.le_of_ble_eq_true rfl⟩) hP hD hS hA [1, 2, 3, 4] [0] rfl rfl (by decide) (by decide) (fun u_1 H locs hw_1 hP hD hS => ?_)
  have hP : va_P D kl [(h, .inr (5, [.ref tb, .ref dr, .int 0, .int 0, .int 0, .int 0, .int 0])), (dr, .inr (3, [.int 0, .int 0, .int 0, .int 0, .int 0, .int 0, .int 0, .int 0, .ref w0, .ref w1, .ref w2, .ref w3, .ref w4, .ref w5, .ref w6, .ref w7]))] H := hP
  have hD : va_D A [(h, .inr (5, [.ref tb, .ref dr, .int 0, .int 0, .int 0, .int 0, .int 0])), (dr, .inr (3, [.int 0, .int 0, .int 0, .int 0, .int 0, .int 0, .int 0, .int 0, .ref w0, .ref w1, .ref w2, .ref w3, .ref w4, .ref w5, .ref w6, .ref w7]))] := hD
  refine lv_aload_n hx hb dX6_readInto_17 rfl (lv_at hl 0 rfl) ?_
  have k_2 := (k_readLaw_00 l D cI cB cQ H.size h tb dr w0 w1 w2 w3 w4 w5 w6 w7)
  refine wc_v (WC := [(h, .inr (5, [.ref tb, .ref dr, .int 0, .int 0, .int 0, .int 0, .int 0])), (dr, .inr (3, [.int 0, .int 0, .int 0, .int 0, .int 0, .int 0, .int 0, .int 0, .ref w0, .ref w1, .ref w2, .ref w3, .ref w4, .ref w5, .ref w6, .ref w7]))]) (WR := []) (va_runV (As := []) (rest := []) ⟨hx, hb, hml, hown, hts⟩ k_2 (cwV 0 hts gX6_readInto_X6_readLaw rfl rfl rfl (by decide +kernel) ⟨Nat.le_of_ble_eq_true rfl, Nat.le_of_ble_eq_true rfl⟩) (wp_V hP hK hD hN [0, 1] (by decide) rfl (ci := 5) rfl rfl) rfl rfl hl.1 rfl (lv_room (Nat.le_of_ble_eq_true rfl)) dX6_readInto_18 ⟨Nat.le_of_ble_eq_true rfl, Nat.le_of_ble_eq_true rfl⟩) hP hD hS hA [0, 1] [] rfl rfl (by decide) (by decide) (fun u_2 H locs hw_2 hP hD hS => ?_)
  have hP : va_P D kl [(h, .inr (5, [.ref tb, .ref dr, .int 0, .int 1, .int 0, .int 0, .int 1]))] H := hP
  have hD : va_D A [(h, .inr (5, [.ref tb, .ref dr, .int 0, .int 1, .int 0, .int 0, .int 1]))] := hD
  refine lv_aload_n hx hb dX6_readInto_21 rfl (lv_at hl 0 rfl) ?_
  have k_3 := (k_readVillages_11 l D cI cB cQ H.size h tb dr)
  refine wc_v (WC := [(h, .inr (5, [.ref tb, .ref dr, .int 0, .int 1, .int 0, .int 0, .int 1]))]) (WR := []) (va_runV (As := []) (rest := []) ⟨hx, hb, hml, hown, hts⟩ k_3 (cwV 0 hts gX6_readInto_X6_readVillages rfl rfl rfl (by decide +kernel) ⟨Nat.le_of_ble_eq_true rfl, Nat.le_of_ble_eq_true rfl⟩) (wp_V hP hK hD hN [0] (by decide) rfl (ci := 5) rfl rfl) rfl rfl hl.1 rfl (lv_room (Nat.le_of_ble_eq_true rfl)) dX6_readInto_22 ⟨Nat.le_of_ble_eq_true rfl, Nat.le_of_ble_eq_true rfl⟩) hP hD hS hA [0] [] rfl rfl (by decide) (by decide) (fun u_3 H locs hw_3 hP hD hS => ?_)
  have hP : va_P D kl [(h, .inr (5, [.ref tb, .ref dr, .int 0, .int 1, .int 0, .int 0, .int 1]))] H := hP
  have hD : va_D A [(h, .inr (5, [.ref tb, .ref dr, .int 0, .int 1, .int 0, .int 0, .int 1]))] := hD
  refine lv_aload_n hx hb dX6_readInto_25 rfl (lv_at hl 0 rfl) ?_
  have k_4 := (k_readRoads_11 l D cI cB cQ H.size h tb dr)
  refine wc_v (WC := [(h, .inr (5, [.ref tb, .ref dr, .int 0, .int 1, .int 0, .int 0, .int 1]))]) (WR := []) (va_runV (As := []) (rest := []) ⟨hx, hb, hml, hown, hts⟩ k_4 (cwV 0 hts gX6_readInto_X6_readRoads rfl rfl rfl (by decide +kernel) ⟨Nat.le_of_ble_eq_true rfl, Nat.le_of_ble_eq_true rfl⟩) (wp_V hP hK hD hN [0] (by decide) rfl (ci := 5) rfl rfl) rfl rfl hl.1 rfl (lv_room (Nat.le_of_ble_eq_true rfl)) dX6_readInto_26 ⟨Nat.le_of_ble_eq_true rfl, Nat.le_of_ble_eq_true rfl⟩) hP hD hS hA [0] [] rfl rfl (by decide) (by decide) (fun u_4 H locs hw_4 hP hD hS => ?_)
  have hP : va_P D kl [(h, .inr (5, [.ref tb, .ref dr, .int 0, .int 1, .int 0, .int 0, .int 1]))] H := hP
  have hD : va_D A [(h, .inr (5, [.ref tb, .ref dr, .int 0, .int 1, .int 0, .int 0, .int 1]))] := hD
  refine lv_aload_n hx hb dX6_readInto_29 rfl (lv_at hl 0 rfl) ?_
  have k_5 := (k_readWalkers_11 l D cI cB cQ H.size h tb dr)
  refine wc_v (WC := [(h, .inr (5, [.ref tb, .ref dr, .int 0, .int 1, .int 0, .int 0, .int 1]))]) (WR := []) (va_runV (As := []) (rest := []) ⟨hx, hb, hml, hown, hts⟩ k_5 (cwV 0 hts gX6_readInto_X6_readWalkers rfl rfl rfl (by decide +kernel) ⟨Nat.le_of_ble_eq_true rfl, Nat.le_of_ble_eq_true rfl⟩) (wp_V hP hK hD hN [0] (by decide) rfl (ci := 5) rfl rfl) rfl rfl hl.1 rfl (lv_room (Nat.le_of_ble_eq_true rfl)) dX6_readInto_30 ⟨Nat.le_of_ble_eq_true rfl, Nat.le_of_ble_eq_true rfl⟩) hP hD hS hA [0] [] rfl rfl (by decide) (by decide) (fun u_5 H locs hw_5 hP hD hS => ?_)
  have hP : va_P D kl [(h, .inr (5, [.ref tb, .ref dr, .int 0, .int 1, .int 0, .int 0, .int 1]))] H := hP
  have hD : va_D A [(h, .inr (5, [.ref tb, .ref dr, .int 0, .int 1, .int 0, .int 0, .int 1]))] := hD
  refine lv_aload_n hx hb dX6_readInto_33 rfl (lv_at hl 0 rfl) ?_
  refine va_get (D := D) (ci := 5) (v := .int 0) (C := RX6) (T := TX6) (N := 7) hx hb hts (fun _ h => List.mem_cons_of_mem _ (List.mem_append_left _ (List.mem_append_right _ h))) hown hK hP 0 rfl rfl 5 (by decide) (hts (.fieldLink RX6 32 "WinterWalk$Tape" "place" "I") (List.mem_of_getElem? (i := 1) rfl)) (fun _ h9 => h9) rfl dX6_readInto_34 ?_
  refine lv_aload_n hx hb dX6_readInto_37 rfl (lv_at hl 0 rfl) ?_
  refine va_get (D := D) (ci := 5) (v := .int 0) (C := RX6) (T := TX6) (N := 7) hx hb hts (fun _ h => List.mem_cons_of_mem _ (List.mem_append_left _ (List.mem_append_right _ h))) hown hK hP 0 rfl rfl 2 (by decide) (hts (.fieldLink RX6 22 "WinterWalk$Tape" "length" "I") (List.mem_of_getElem? (i := 4) rfl)) (fun _ h9 => h9) rfl dX6_readInto_38 ?_
  refine lv_icmp_ge (tgt := 53) hx hb dX6_readInto_41 (by decide) (fun _ => ?_) (fun c9 => absurd (by decide) c9)
  refine lv_aload_n hx hb dX6_readInto_53 rfl (lv_at hl 0 rfl) ?_
  refine lv_iconst (v := 0) hx hb dX6_readInto_54 (by decide) ?_
  refine va_put (D := D) (ci := 5) (v := .int 0) (ty := .int) (C := RX6) (T := TX6) (N := 7) hx hb hts (fun _ h => List.mem_cons_of_mem _ (List.mem_append_left _ (List.mem_append_right _ h))) tyX6 tyX6_ok nmX6 hown hK hP hD hS 0 rfl rfl 2 (by decide) (hts (.fieldLink RX6 22 "WinterWalk$Tape" "length" "I") (List.mem_of_getElem? (i := 4) rfl)) (fun _ h9 => h9) rfl (by decide +kernel) rfl rfl (Nat.le_of_ble_eq_true rfl) dX6_readInto_55 (fun H locs hP hD hS => ?_)
  have hP : va_P D kl [(h, .inr (5, [.ref tb, .ref dr, .int 0, .int 1, .int 0, .int 0, .int 1]))] H := hP
  have hD : va_D A [(h, .inr (5, [.ref tb, .ref dr, .int 0, .int 1, .int 0, .int 0, .int 1]))] := hD
  refine lv_aload_n hx hb dX6_readInto_58 rfl (lv_at hl 0 rfl) ?_
  refine va_get (D := D) (ci := 5) (v := .int 1) (C := RX6) (T := TX6) (N := 7) hx hb hts (fun _ h => List.mem_cons_of_mem _ (List.mem_append_left _ (List.mem_append_right _ h))) hown hK hP 0 rfl rfl 6 (by decide) (hts (.fieldLink RX6 35 "WinterWalk$Tape" "faulty" "Z") (List.mem_of_getElem? (i := 2) rfl)) (fun _ h9 => h9) rfl dX6_readInto_59 ?_
  refine lv_if_ne (tgt := 73) hx hb dX6_readInto_62 (by decide) (fun _ => ?_) (fun c9 => absurd c9 (by decide))
  refine lv_aload_n hx hb dX6_readInto_73 rfl (lv_at hl 0 rfl) ?_
  refine va_get (D := D) (ci := 5) (v := .int 1) (C := RX6) (T := TX6) (N := 7) hx hb hts (fun _ h => List.mem_cons_of_mem _ (List.mem_append_left _ (List.mem_append_right _ h))) hown hK hP 0 rfl rfl 6 (by decide) (hts (.fieldLink RX6 35 "WinterWalk$Tape" "faulty" "Z") (List.mem_of_getElem? (i := 2) rfl)) (fun _ h9 => h9) rfl dX6_readInto_74 ?_
  refine lv_if_ne (tgt := 84) hx hb dX6_readInto_77 (by decide) (fun _ => ?_) (fun c9 => absurd c9 (by decide))
  refine lv_iconst (v := 0) hx hb dX6_readInto_84 (by decide) ?_
  exact wr_z (v := 0) hx hb hr hlocks hS () (by rfl) (hP.sub [0] rfl) (hD.sub [0] (by decide) rfl) dX6_readInto_85 rfl
set_option maxHeartbeats 4000000 in
set_option maxRecDepth 100000 in
theorem k_isFull_00 (l : Launch) (D : va_G) (cI cB cQ : ClassId) (sz : Nat) (h : Nat) (tb : Nat) (dr : Nat) : mi l yX6_isFull wsX6_isFull ({ frames := 0, cells := 0, slots := 0, locals := 0 }) D cI cB cQ [.ref h] sz [(h, .inr (5, [.ref tb, .ref dr, .int 0, .int 0, .int 0, .int 0, .int 0]))] (fun (r : Int32) (_u : Unit) => r = 0) (fun _ => [(h, .inr (5, [.ref tb, .ref dr, .int 0, .int 0, .int 0, .int 0, .int 0]))]) 0 0 := by
  refine wm_i (cc := cX6_isFull) (maxL := 1) (ret := (some .boolean)) (by decide) rfl (Nat.le_of_ble_eq_true rfl) ?_
  intro p e s m below meth c A ls hx hb hr hml hown hts hlocks hin hP hK hD hN hA hl hS
  have hown : s.vm.findClass RX6 = some m.cls := hown
  have hl : lv_has ls 1 [(0, .ref h)] := hl
  change W p l e ({ frames := 0, cells := 0, slots := 0, locals := 0 }) s m ([.ref h] : List Value).toArray below meth c s.heap [] 0 0 (MQ below (va_Qi (fun (r : Int32) (_u : Unit) => r = 0) (fun u t => wb D A ((fun _ => [(h, .inr (5, [.ref tb, .ref dr, .int 0, .int 0, .int 0, .int 0, .int 0]))]) u) t) A) ([.ref h] : List Value).toArray s 0 0 A) (F0 m 0 ls [])
  refine lv_aload_n hx hb dX6_isFull_0 rfl (lv_at hl 0 rfl) ?_
  refine va_get (D := D) (ci := 5) (v := .int 0) (C := RX6) (T := TX6) (N := 7) hx hb hts (fun _ h => List.mem_cons_of_mem _ (List.mem_append_right _ h)) hown hK hP 0 rfl rfl 2 (by decide) (hts (.fieldLink RX6 22 "WinterWalk$Tape" "length" "I") (List.mem_of_getElem? (i := 1) rfl)) (fun _ h9 => h9) rfl dX6_isFull_1 ?_
  refine lv_bipush (v := 120) hx hb dX6_isFull_4 (by decide) ?_
  refine lv_icmp_lt (tgt := 13) hx hb dX6_isFull_6 (by decide) (fun _ => ?_) (fun c9 => absurd (by decide) c9)
  refine lv_iconst (v := 0) hx hb dX6_isFull_13 (by decide) ?_
  exact wr_z (v := 0) hx hb hr hlocks hS () (by rfl) (hP.sub [0] rfl) (hD.sub [0] (by decide) rfl) dX6_isFull_14 rfl
set_option maxHeartbeats 4000000 in
set_option maxRecDepth 100000 in
theorem k_append (l : Launch) (D : va_G) (cI cB cQ : ClassId) (sz : Nat) (h : Nat) (tb : Nat) (dr : Nat) (v : Int32) : mi l yX6_append wsX6_append ({ frames := 0, cells := 0, slots := 0, locals := 0 }) D cI cB cQ [.ref h, .int v] sz [(h, .inr (5, [.ref tb, .ref dr, .int 0, .int 0, .int 0, .int 0, .int 0])), (tb, .inl (cI, 120, .inl (fun _ => 0)))] (fun (r : Int32) (_u : Unit) => r = 1) (fun _ => []) 0 0 := by
  refine wm_i (cc := cX6_append) (maxL := 2) (ret := (some .int)) (by decide) rfl (Nat.le_of_ble_eq_true rfl) ?_
  intro p e s m below meth c A ls hx hb hr hml hown hts hlocks hin hP hK hD hN hA hl hS
  have hown : s.vm.findClass RX6 = some m.cls := hown
  have hl : lv_has ls 2 [(0, .ref h), (1, .int v)] := hl
  change W p l e ({ frames := 0, cells := 0, slots := 0, locals := 0 }) s m ([.ref h, .int v] : List Value).toArray below meth c s.heap [] 0 0 (MQ below (va_Qi (fun (r : Int32) (_u : Unit) => r = 1) (fun u t => wb D A ((fun _ => []) u) t) A) ([.ref h, .int v] : List Value).toArray s 0 0 A) (F0 m 0 ls [])
  refine lv_aload_n hx hb dX6_append_0 rfl (lv_at hl 0 rfl) ?_
  refine va_get (D := D) (ci := 5) (v := .ref tb) (C := RX6) (T := TX6) (N := 7) hx hb hts (fun _ h => List.mem_cons_of_mem _ (List.mem_append_right _ h)) hown hK hP 0 rfl rfl 0 (by decide) (hts (.fieldLink RX6 11 "WinterWalk$Tape" "bytes" "[I") (List.mem_of_getElem? (i := 1) rfl)) (fun _ h9 => h9) rfl dX6_append_1 ?_
  refine lv_aload_n hx hb dX6_append_4 rfl (lv_at hl 0 rfl) ?_
  refine va_get (D := D) (ci := 5) (v := .int 0) (C := RX6) (T := TX6) (N := 7) hx hb hts (fun _ h => List.mem_cons_of_mem _ (List.mem_append_right _ h)) hown hK hP 0 rfl rfl 2 (by decide) (hts (.fieldLink RX6 22 "WinterWalk$Tape" "length" "I") (List.mem_of_getElem? (i := 2) rfl)) (fun _ h9 => h9) rfl dX6_append_5 ?_
  refine lv_iload_n hx hb dX6_append_8 rfl (lv_at hl 1 rfl) ?_
  refine va_iast hx hb hK hP hD hS 1 0 rfl rfl (zi_in (by decide) (by decide)) dX6_append_9 (fun H locs hP hD hS => ?_)
  have hP : va_P D kl [(h, .inr (5, [.ref tb, .ref dr, .int 0, .int 0, .int 0, .int 0, .int 0])), (tb, .inl (cI, 120, .inl (upd (fun _ => 0) (0 : Int32).toNatClampNeg v)))] H := hP
  have hD : va_D A [(h, .inr (5, [.ref tb, .ref dr, .int 0, .int 0, .int 0, .int 0, .int 0])), (tb, .inl (cI, 120, .inl (upd (fun _ => 0) (0 : Int32).toNatClampNeg v)))] := hD
  refine lv_aload_n hx hb dX6_append_10 rfl (lv_at hl 0 rfl) ?_
  refine lv_dup hx hb dX6_append_11 rfl ?_
  refine va_get (D := D) (ci := 5) (v := .int 0) (C := RX6) (T := TX6) (N := 7) hx hb hts (fun _ h => List.mem_cons_of_mem _ (List.mem_append_right _ h)) hown hK hP 0 rfl rfl 2 (by decide) (hts (.fieldLink RX6 22 "WinterWalk$Tape" "length" "I") (List.mem_of_getElem? (i := 2) rfl)) (fun _ h9 => h9) rfl dX6_append_12 ?_
  refine lv_iconst (v := 1) hx hb dX6_append_15 (by decide) ?_
  refine lv_iadd hx hb dX6_append_16 ?_
  refine lv_topi (fun x_1 ex_1 => ?_)
  obtain rfl : x_1 = 1 := ex_1.trans (by decide)
  refine va_put (D := D) (ci := 5) (v := .int 1) (ty := .int) (C := RX6) (T := TX6) (N := 7) hx hb hts (fun _ h => List.mem_cons_of_mem _ (List.mem_append_right _ h)) tyX6 tyX6_ok nmX6 hown hK hP hD hS 0 rfl rfl 2 (by decide) (hts (.fieldLink RX6 22 "WinterWalk$Tape" "length" "I") (List.mem_of_getElem? (i := 2) rfl)) (fun _ h9 => h9) rfl (by decide +kernel) rfl rfl (Nat.le_of_ble_eq_true rfl) dX6_append_17 (fun H locs hP hD hS => ?_)
  have hP : va_P D kl [(h, .inr (5, [.ref tb, .ref dr, .int 1, .int 0, .int 0, .int 0, .int 0])), (tb, .inl (cI, 120, .inl (upd (fun _ => 0) (0 : Int32).toNatClampNeg v)))] H := hP
  have hD : va_D A [(h, .inr (5, [.ref tb, .ref dr, .int 1, .int 0, .int 0, .int 0, .int 0])), (tb, .inl (cI, 120, .inl (upd (fun _ => 0) (0 : Int32).toNatClampNeg v)))] := hD
  refine lv_aload_n hx hb dX6_append_20 rfl (lv_at hl 0 rfl) ?_
  refine va_get (D := D) (ci := 5) (v := .int 1) (C := RX6) (T := TX6) (N := 7) hx hb hts (fun _ h => List.mem_cons_of_mem _ (List.mem_append_right _ h)) hown hK hP 0 rfl rfl 2 (by decide) (hts (.fieldLink RX6 22 "WinterWalk$Tape" "length" "I") (List.mem_of_getElem? (i := 2) rfl)) (fun _ h9 => h9) rfl dX6_append_21 ?_
  exact wr_i (v := 1) hx hb hr hlocks hS () (by rfl) (hP.sub [] rfl) (hD.sub [] (by decide) rfl) dX6_append_24
set_option maxHeartbeats 4000000 in
set_option maxRecDepth 100000 in
theorem k_tape_init (l : Launch) (D : va_G) (cI cB cQ : ClassId) (sz : Nat) (h : Nat) : mv l yX6_init wsX6_init ({ frames := 2, cells := 10, slots := 185, locals := 40 }) D cI cB cQ [.ref h] sz [(h, .inr (5, [.null, .null, .int 0, .int 0, .int 0, .int 0, .int 0]))] (fun (u : Nat × Nat × Nat × Nat × Nat × Nat × Nat × Nat × Nat × Nat) => True) (fun u => [(h, .inr (5, [.ref u.1, .ref u.2.1, .int 0, .int 0, .int 0, .int 0, .int 0])), (u.1, .inl (cI, 120, .inl (fun _ => 0))), (u.2.1, .inr (3, [.int 0, .int 0, .int 0, .int 0, .int 0, .int 0, .int 0, .int 0, .ref u.2.2.1, .ref u.2.2.2.1, .ref u.2.2.2.2.1, .ref u.2.2.2.2.2.1, .ref u.2.2.2.2.2.2.1, .ref u.2.2.2.2.2.2.2.1, .ref u.2.2.2.2.2.2.2.2.1, .ref u.2.2.2.2.2.2.2.2.2])), (u.2.2.1, .inl (cI, 8, .inl (fun _ => 0))), (u.2.2.2.1, .inl (cI, 8, .inl (fun _ => 0))), (u.2.2.2.2.1, .inl (cI, 8, .inl (fun _ => 0))), (u.2.2.2.2.2.1, .inl (cI, 8, .inl (fun _ => 0))), (u.2.2.2.2.2.2.1, .inl (cI, 8, .inl (fun _ => 0))), (u.2.2.2.2.2.2.2.1, .inl (cI, 3, .inl (fun _ => 0))), (u.2.2.2.2.2.2.2.2.1, .inl (cI, 3, .inl (fun _ => 0))), (u.2.2.2.2.2.2.2.2.2, .inl (cI, 3, .inl (fun _ => 0)))]) 10 185 := by
  refine wm_v (cc := cX6_init) (maxL := 1) (ret := none) (by decide) rfl (Nat.le_of_ble_eq_true rfl) ?_
  intro p e s m below meth c A ls hx hb hr hml hown hts hlocks hin hP hK hD hN hA hl hS
  have hown : s.vm.findClass RX6 = some m.cls := hown
  have hl : lv_has ls 1 [(0, .ref h)] := hl
  change W p l e ({ frames := 2, cells := 10, slots := 185, locals := 40 }) s m ([.ref h] : List Value).toArray below meth c s.heap [] 0 0 (MQ below (va_Qv (fun (u : Nat × Nat × Nat × Nat × Nat × Nat × Nat × Nat × Nat × Nat) => True) (fun u t => wb D A ((fun u => [(h, .inr (5, [.ref u.1, .ref u.2.1, .int 0, .int 0, .int 0, .int 0, .int 0])), (u.1, .inl (cI, 120, .inl (fun _ => 0))), (u.2.1, .inr (3, [.int 0, .int 0, .int 0, .int 0, .int 0, .int 0, .int 0, .int 0, .ref u.2.2.1, .ref u.2.2.2.1, .ref u.2.2.2.2.1, .ref u.2.2.2.2.2.1, .ref u.2.2.2.2.2.2.1, .ref u.2.2.2.2.2.2.2.1, .ref u.2.2.2.2.2.2.2.2.1, .ref u.2.2.2.2.2.2.2.2.2])), (u.2.2.1, .inl (cI, 8, .inl (fun _ => 0))), (u.2.2.2.1, .inl (cI, 8, .inl (fun _ => 0))), (u.2.2.2.2.1, .inl (cI, 8, .inl (fun _ => 0))), (u.2.2.2.2.2.1, .inl (cI, 8, .inl (fun _ => 0))), (u.2.2.2.2.2.2.1, .inl (cI, 8, .inl (fun _ => 0))), (u.2.2.2.2.2.2.2.1, .inl (cI, 3, .inl (fun _ => 0))), (u.2.2.2.2.2.2.2.2.1, .inl (cI, 3, .inl (fun _ => 0))), (u.2.2.2.2.2.2.2.2.2, .inl (cI, 3, .inl (fun _ => 0)))]) u) t) A) ([.ref h] : List Value).toArray s 10 185 A) (F0 m 0 ls [])
  refine lv_aload_n hx hb dX6_init_0 rfl (lv_at hl 0 rfl) ?_
  refine W.objInit hx hb hown (hts (.methodLink RX6 3 objectInit) (List.mem_of_getElem? (i := 1) rfl)) (hts (.instanceMethod objectInit) (List.mem_of_getElem? (i := 2) rfl)) (hts (.code objectInit ⟨#[0xb1]⟩ 1 none) (List.mem_of_getElem? (i := 3) rfl)) rfl (by rw [hml]; exact hl.1) rfl dX6_init_1 (Nat.le_of_ble_eq_true rfl) (Nat.le_of_ble_eq_true rfl) ?_
  refine W.eq (g2 := F0 m 4 ls []) rfl ?_
  refine lv_aload_n hx hb dX6_init_4 rfl (lv_at hl 0 rfl) ?_
  refine lv_bipush (v := 120) hx hb dX6_init_5 (by decide) ?_
  refine wn_i (N' := 120) hx hb (hts (.arrayClass .int) (List.mem_of_getElem? (i := 4) rfl)) hK hP hD hS hA (by decide) (by decide) (Nat.le_of_ble_eq_true rfl) (Nat.le_of_ble_eq_true rfl) (Nat.le_of_ble_eq_true rfl) dX6_init_7 (fun q_1 H hP hD hS => ?_)
  have hP : va_P D kl [(h, .inr (5, [.null, .null, .int 0, .int 0, .int 0, .int 0, .int 0])), (q_1, .inl (cI, 120, .inl (fun _ => 0)))] H := hP
  have hD : va_D A [(h, .inr (5, [.null, .null, .int 0, .int 0, .int 0, .int 0, .int 0])), (q_1, .inl (cI, 120, .inl (fun _ => 0)))] := hD
  refine W.widen (k := 1) (n := 120) (Nat.le_of_ble_eq_true rfl) (Nat.le_of_ble_eq_true rfl) ?_
  refine va_putF (D := D) (ci := 5) (v := .ref q_1) (ty := .array .int) (C := RX6) (T := TX6) (N := 7) hx hb hts (fun _ h => List.mem_cons_of_mem _ (List.mem_append_left _ (List.mem_append_right _ h))) tyX6 tyX6_ok nmX6 hown hK hP hD hS 0 rfl rfl 0 (by decide) (hts (.fieldLink RX6 11 "WinterWalk$Tape" "bytes" "[I") (List.mem_of_getElem? (i := 5) rfl)) (fun _ h9 => h9) rfl hin rfl (by decide +kernel) rfl rfl (Nat.le_of_ble_eq_true rfl) dX6_init_9 (fun H locs hP hD hS => ?_)
  have hP : va_P D kl [(h, .inr (5, [.ref q_1, .null, .int 0, .int 0, .int 0, .int 0, .int 0])), (q_1, .inl (cI, 120, .inl (fun _ => 0)))] H := hP
  have hD : va_D A [(h, .inr (5, [.ref q_1, .null, .int 0, .int 0, .int 0, .int 0, .int 0])), (q_1, .inl (cI, 120, .inl (fun _ => 0)))] := hD
  refine lv_aload_n hx hb dX6_init_12 rfl (lv_at hl 0 rfl) ?_
  refine va_new (ci := 3) (fs := [.int 0, .int 0, .int 0, .int 0, .int 0, .int 0, .int 0, .int 0, .null, .null, .null, .null, .null, .null, .null, .null]) (C := RX4) (T := TX4) (N := 16) hx hb hts (fun _ h => List.mem_cons_of_mem _ (List.mem_append_right _ h)) tyX4 tyX4_ok hown (hts (.classLink RX6 15 RX4) (List.mem_of_getElem? (i := 6) rfl)) (hts (.instantiable RX4 16) (List.mem_of_getElem? (i := 7) rfl)) (hts (.initialized RX4) (List.mem_of_getElem? (i := 8) rfl)) hK hP hD hS hA rfl (fun j hj => by rcases (show j = 0 ∨ j = 1 ∨ j = 2 ∨ j = 3 ∨ j = 4 ∨ j = 5 ∨ j = 6 ∨ j = 7 ∨ j = 8 ∨ j = 9 ∨ j = 10 ∨ j = 11 ∨ j = 12 ∨ j = 13 ∨ j = 14 ∨ j = 15 by omega) with rfl | rfl | rfl | rfl | rfl | rfl | rfl | rfl | rfl | rfl | rfl | rfl | rfl | rfl | rfl | rfl <;> rfl) (Nat.le_of_ble_eq_true rfl) (Nat.le_of_ble_eq_true rfl) dX6_init_13 (fun q_2 H hP hD hS => ?_)
  have hP : va_P D kl [(h, .inr (5, [.ref q_1, .null, .int 0, .int 0, .int 0, .int 0, .int 0])), (q_1, .inl (cI, 120, .inl (fun _ => 0))), (q_2, .inr (3, [.int 0, .int 0, .int 0, .int 0, .int 0, .int 0, .int 0, .int 0, .null, .null, .null, .null, .null, .null, .null, .null]))] H := hP
  have hD : va_D A [(h, .inr (5, [.ref q_1, .null, .int 0, .int 0, .int 0, .int 0, .int 0])), (q_1, .inl (cI, 120, .inl (fun _ => 0))), (q_2, .inr (3, [.int 0, .int 0, .int 0, .int 0, .int 0, .int 0, .int 0, .int 0, .null, .null, .null, .null, .null, .null, .null, .null]))] := hD
  refine W.widen (k := 2) (n := 136) (Nat.le_of_ble_eq_true rfl) (Nat.le_of_ble_eq_true rfl) ?_
  refine lv_dup hx hb dX6_init_16 rfl ?_
  have k_3 := (k_land_init l D cI cB cQ H.size q_2)
  refine wc_v (WC := [(q_2, .inr (3, [.int 0, .int 0, .int 0, .int 0, .int 0, .int 0, .int 0, .int 0, .null, .null, .null, .null, .null, .null, .null, .null]))]) (WR := [(h, .inr (5, [.ref q_1, .null, .int 0, .int 0, .int 0, .int 0, .int 0])), (q_1, .inl (cI, 120, .inl (fun _ => 0)))]) (va_runIN (As := []) (rest := [.ref q_2, .ref h]) ⟨hx, hb, hml, hown, hts⟩ k_3 (⟨va_cnB 0 hts gX6_init_X4_init_n17 rfl rfl rfl hN.2.1 (hts (.initialized RX4) (List.mem_of_getElem? (i := 8) rfl)) (by decide +kernel) ⟨Nat.le_of_ble_eq_true rfl, Nat.le_of_ble_eq_true rfl⟩, rfl, (hts (.instanceMethod yX4_init) (List.mem_of_getElem? (i := 15) rfl))⟩) (wp_S hP hK hD hN [2] (by decide) rfl) rfl rfl hl.1 rfl (lv_room (Nat.le_of_ble_eq_true rfl)) dX6_init_17 ⟨Nat.le_of_ble_eq_true rfl, Nat.le_of_ble_eq_true rfl⟩) hP hD hS hA [2] [0, 1] rfl rfl (by decide) (by decide) (fun u_3 H locs hw_3 hP hD hS => ?_)
  obtain ⟨q3_0, q3_1, q3_2, q3_3, q3_4, q3_5, q3_6, q3_7⟩ := u_3
  have hP : va_P D kl [(h, .inr (5, [.ref q_1, .null, .int 0, .int 0, .int 0, .int 0, .int 0])), (q_1, .inl (cI, 120, .inl (fun _ => 0))), (q_2, .inr (3, [.int 0, .int 0, .int 0, .int 0, .int 0, .int 0, .int 0, .int 0, .ref q3_0, .ref q3_1, .ref q3_2, .ref q3_3, .ref q3_4, .ref q3_5, .ref q3_6, .ref q3_7])), (q3_0, .inl (cI, 8, .inl (fun _ => 0))), (q3_1, .inl (cI, 8, .inl (fun _ => 0))), (q3_2, .inl (cI, 8, .inl (fun _ => 0))), (q3_3, .inl (cI, 8, .inl (fun _ => 0))), (q3_4, .inl (cI, 8, .inl (fun _ => 0))), (q3_5, .inl (cI, 3, .inl (fun _ => 0))), (q3_6, .inl (cI, 3, .inl (fun _ => 0))), (q3_7, .inl (cI, 3, .inl (fun _ => 0)))] H := hP
  have hD : va_D A [(h, .inr (5, [.ref q_1, .null, .int 0, .int 0, .int 0, .int 0, .int 0])), (q_1, .inl (cI, 120, .inl (fun _ => 0))), (q_2, .inr (3, [.int 0, .int 0, .int 0, .int 0, .int 0, .int 0, .int 0, .int 0, .ref q3_0, .ref q3_1, .ref q3_2, .ref q3_3, .ref q3_4, .ref q3_5, .ref q3_6, .ref q3_7])), (q3_0, .inl (cI, 8, .inl (fun _ => 0))), (q3_1, .inl (cI, 8, .inl (fun _ => 0))), (q3_2, .inl (cI, 8, .inl (fun _ => 0))), (q3_3, .inl (cI, 8, .inl (fun _ => 0))), (q3_4, .inl (cI, 8, .inl (fun _ => 0))), (q3_5, .inl (cI, 3, .inl (fun _ => 0))), (q3_6, .inl (cI, 3, .inl (fun _ => 0))), (q3_7, .inl (cI, 3, .inl (fun _ => 0)))] := hD
  refine W.widen (k := 10) (n := 185) (Nat.le_of_ble_eq_true rfl) (Nat.le_of_ble_eq_true rfl) ?_
  refine va_putF (D := D) (ci := 5) (v := .ref q_2) (ty := .object "WinterWalk$Land") (C := RX6) (T := TX6) (N := 7) hx hb hts (fun _ h => List.mem_cons_of_mem _ (List.mem_append_left _ (List.mem_append_right _ h))) tyX6 tyX6_ok nmX6 hown hK hP hD hS 0 rfl rfl 1 (by decide) (hts (.fieldLink RX6 18 "WinterWalk$Tape" "draft" "LWinterWalk$Land;") (List.mem_of_getElem? (i := 9) rfl)) (fun _ h9 => h9) rfl hin rfl (by decide +kernel) rfl rfl (Nat.le_of_ble_eq_true rfl) dX6_init_20 (fun H locs hP hD hS => ?_)
  have hP : va_P D kl [(h, .inr (5, [.ref q_1, .ref q_2, .int 0, .int 0, .int 0, .int 0, .int 0])), (q_1, .inl (cI, 120, .inl (fun _ => 0))), (q_2, .inr (3, [.int 0, .int 0, .int 0, .int 0, .int 0, .int 0, .int 0, .int 0, .ref q3_0, .ref q3_1, .ref q3_2, .ref q3_3, .ref q3_4, .ref q3_5, .ref q3_6, .ref q3_7])), (q3_0, .inl (cI, 8, .inl (fun _ => 0))), (q3_1, .inl (cI, 8, .inl (fun _ => 0))), (q3_2, .inl (cI, 8, .inl (fun _ => 0))), (q3_3, .inl (cI, 8, .inl (fun _ => 0))), (q3_4, .inl (cI, 8, .inl (fun _ => 0))), (q3_5, .inl (cI, 3, .inl (fun _ => 0))), (q3_6, .inl (cI, 3, .inl (fun _ => 0))), (q3_7, .inl (cI, 3, .inl (fun _ => 0)))] H := hP
  have hD : va_D A [(h, .inr (5, [.ref q_1, .ref q_2, .int 0, .int 0, .int 0, .int 0, .int 0])), (q_1, .inl (cI, 120, .inl (fun _ => 0))), (q_2, .inr (3, [.int 0, .int 0, .int 0, .int 0, .int 0, .int 0, .int 0, .int 0, .ref q3_0, .ref q3_1, .ref q3_2, .ref q3_3, .ref q3_4, .ref q3_5, .ref q3_6, .ref q3_7])), (q3_0, .inl (cI, 8, .inl (fun _ => 0))), (q3_1, .inl (cI, 8, .inl (fun _ => 0))), (q3_2, .inl (cI, 8, .inl (fun _ => 0))), (q3_3, .inl (cI, 8, .inl (fun _ => 0))), (q3_4, .inl (cI, 8, .inl (fun _ => 0))), (q3_5, .inl (cI, 3, .inl (fun _ => 0))), (q3_6, .inl (cI, 3, .inl (fun _ => 0))), (q3_7, .inl (cI, 3, .inl (fun _ => 0)))] := hD
  refine lv_aload_n hx hb dX6_init_23 rfl (lv_at hl 0 rfl) ?_
  refine lv_iconst (v := 0) hx hb dX6_init_24 (by decide) ?_
  refine va_put (D := D) (ci := 5) (v := .int 0) (ty := .int) (C := RX6) (T := TX6) (N := 7) hx hb hts (fun _ h => List.mem_cons_of_mem _ (List.mem_append_left _ (List.mem_append_right _ h))) tyX6 tyX6_ok nmX6 hown hK hP hD hS 0 rfl rfl 2 (by decide) (hts (.fieldLink RX6 22 "WinterWalk$Tape" "length" "I") (List.mem_of_getElem? (i := 10) rfl)) (fun _ h9 => h9) rfl (by decide +kernel) rfl rfl (Nat.le_of_ble_eq_true rfl) dX6_init_25 (fun H locs hP hD hS => ?_)
  have hP : va_P D kl [(h, .inr (5, [.ref q_1, .ref q_2, .int 0, .int 0, .int 0, .int 0, .int 0])), (q_1, .inl (cI, 120, .inl (fun _ => 0))), (q_2, .inr (3, [.int 0, .int 0, .int 0, .int 0, .int 0, .int 0, .int 0, .int 0, .ref q3_0, .ref q3_1, .ref q3_2, .ref q3_3, .ref q3_4, .ref q3_5, .ref q3_6, .ref q3_7])), (q3_0, .inl (cI, 8, .inl (fun _ => 0))), (q3_1, .inl (cI, 8, .inl (fun _ => 0))), (q3_2, .inl (cI, 8, .inl (fun _ => 0))), (q3_3, .inl (cI, 8, .inl (fun _ => 0))), (q3_4, .inl (cI, 8, .inl (fun _ => 0))), (q3_5, .inl (cI, 3, .inl (fun _ => 0))), (q3_6, .inl (cI, 3, .inl (fun _ => 0))), (q3_7, .inl (cI, 3, .inl (fun _ => 0)))] H := hP
  have hD : va_D A [(h, .inr (5, [.ref q_1, .ref q_2, .int 0, .int 0, .int 0, .int 0, .int 0])), (q_1, .inl (cI, 120, .inl (fun _ => 0))), (q_2, .inr (3, [.int 0, .int 0, .int 0, .int 0, .int 0, .int 0, .int 0, .int 0, .ref q3_0, .ref q3_1, .ref q3_2, .ref q3_3, .ref q3_4, .ref q3_5, .ref q3_6, .ref q3_7])), (q3_0, .inl (cI, 8, .inl (fun _ => 0))), (q3_1, .inl (cI, 8, .inl (fun _ => 0))), (q3_2, .inl (cI, 8, .inl (fun _ => 0))), (q3_3, .inl (cI, 8, .inl (fun _ => 0))), (q3_4, .inl (cI, 8, .inl (fun _ => 0))), (q3_5, .inl (cI, 3, .inl (fun _ => 0))), (q3_6, .inl (cI, 3, .inl (fun _ => 0))), (q3_7, .inl (cI, 3, .inl (fun _ => 0)))] := hD
  refine lv_aload_n hx hb dX6_init_28 rfl (lv_at hl 0 rfl) ?_
  refine lv_iconst (v := 0) hx hb dX6_init_29 (by decide) ?_
  refine va_put (D := D) (ci := 5) (v := .int 0) (ty := .int) (C := RX6) (T := TX6) (N := 7) hx hb hts (fun _ h => List.mem_cons_of_mem _ (List.mem_append_left _ (List.mem_append_right _ h))) tyX6 tyX6_ok nmX6 hown hK hP hD hS 0 rfl rfl 3 (by decide) (hts (.fieldLink RX6 26 "WinterWalk$Tape" "latestFault" "I") (List.mem_of_getElem? (i := 11) rfl)) (fun _ h9 => h9) rfl (by decide +kernel) rfl rfl (Nat.le_of_ble_eq_true rfl) dX6_init_30 (fun H locs hP hD hS => ?_)
  have hP : va_P D kl [(h, .inr (5, [.ref q_1, .ref q_2, .int 0, .int 0, .int 0, .int 0, .int 0])), (q_1, .inl (cI, 120, .inl (fun _ => 0))), (q_2, .inr (3, [.int 0, .int 0, .int 0, .int 0, .int 0, .int 0, .int 0, .int 0, .ref q3_0, .ref q3_1, .ref q3_2, .ref q3_3, .ref q3_4, .ref q3_5, .ref q3_6, .ref q3_7])), (q3_0, .inl (cI, 8, .inl (fun _ => 0))), (q3_1, .inl (cI, 8, .inl (fun _ => 0))), (q3_2, .inl (cI, 8, .inl (fun _ => 0))), (q3_3, .inl (cI, 8, .inl (fun _ => 0))), (q3_4, .inl (cI, 8, .inl (fun _ => 0))), (q3_5, .inl (cI, 3, .inl (fun _ => 0))), (q3_6, .inl (cI, 3, .inl (fun _ => 0))), (q3_7, .inl (cI, 3, .inl (fun _ => 0)))] H := hP
  have hD : va_D A [(h, .inr (5, [.ref q_1, .ref q_2, .int 0, .int 0, .int 0, .int 0, .int 0])), (q_1, .inl (cI, 120, .inl (fun _ => 0))), (q_2, .inr (3, [.int 0, .int 0, .int 0, .int 0, .int 0, .int 0, .int 0, .int 0, .ref q3_0, .ref q3_1, .ref q3_2, .ref q3_3, .ref q3_4, .ref q3_5, .ref q3_6, .ref q3_7])), (q3_0, .inl (cI, 8, .inl (fun _ => 0))), (q3_1, .inl (cI, 8, .inl (fun _ => 0))), (q3_2, .inl (cI, 8, .inl (fun _ => 0))), (q3_3, .inl (cI, 8, .inl (fun _ => 0))), (q3_4, .inl (cI, 8, .inl (fun _ => 0))), (q3_5, .inl (cI, 3, .inl (fun _ => 0))), (q3_6, .inl (cI, 3, .inl (fun _ => 0))), (q3_7, .inl (cI, 3, .inl (fun _ => 0)))] := hD
  refine lv_aload_n hx hb dX6_init_33 rfl (lv_at hl 0 rfl) ?_
  refine lv_iconst (v := 0) hx hb dX6_init_34 (by decide) ?_
  refine va_put (D := D) (ci := 5) (v := .int 0) (ty := .int) (C := RX6) (T := TX6) (N := 7) hx hb hts (fun _ h => List.mem_cons_of_mem _ (List.mem_append_left _ (List.mem_append_right _ h))) tyX6 tyX6_ok nmX6 hown hK hP hD hS 0 rfl rfl 4 (by decide) (hts (.fieldLink RX6 29 "WinterWalk$Tape" "faultPlace" "I") (List.mem_of_getElem? (i := 12) rfl)) (fun _ h9 => h9) rfl (by decide +kernel) rfl rfl (Nat.le_of_ble_eq_true rfl) dX6_init_35 (fun H locs hP hD hS => ?_)
  have hP : va_P D kl [(h, .inr (5, [.ref q_1, .ref q_2, .int 0, .int 0, .int 0, .int 0, .int 0])), (q_1, .inl (cI, 120, .inl (fun _ => 0))), (q_2, .inr (3, [.int 0, .int 0, .int 0, .int 0, .int 0, .int 0, .int 0, .int 0, .ref q3_0, .ref q3_1, .ref q3_2, .ref q3_3, .ref q3_4, .ref q3_5, .ref q3_6, .ref q3_7])), (q3_0, .inl (cI, 8, .inl (fun _ => 0))), (q3_1, .inl (cI, 8, .inl (fun _ => 0))), (q3_2, .inl (cI, 8, .inl (fun _ => 0))), (q3_3, .inl (cI, 8, .inl (fun _ => 0))), (q3_4, .inl (cI, 8, .inl (fun _ => 0))), (q3_5, .inl (cI, 3, .inl (fun _ => 0))), (q3_6, .inl (cI, 3, .inl (fun _ => 0))), (q3_7, .inl (cI, 3, .inl (fun _ => 0)))] H := hP
  have hD : va_D A [(h, .inr (5, [.ref q_1, .ref q_2, .int 0, .int 0, .int 0, .int 0, .int 0])), (q_1, .inl (cI, 120, .inl (fun _ => 0))), (q_2, .inr (3, [.int 0, .int 0, .int 0, .int 0, .int 0, .int 0, .int 0, .int 0, .ref q3_0, .ref q3_1, .ref q3_2, .ref q3_3, .ref q3_4, .ref q3_5, .ref q3_6, .ref q3_7])), (q3_0, .inl (cI, 8, .inl (fun _ => 0))), (q3_1, .inl (cI, 8, .inl (fun _ => 0))), (q3_2, .inl (cI, 8, .inl (fun _ => 0))), (q3_3, .inl (cI, 8, .inl (fun _ => 0))), (q3_4, .inl (cI, 8, .inl (fun _ => 0))), (q3_5, .inl (cI, 3, .inl (fun _ => 0))), (q3_6, .inl (cI, 3, .inl (fun _ => 0))), (q3_7, .inl (cI, 3, .inl (fun _ => 0)))] := hD
  refine lv_aload_n hx hb dX6_init_38 rfl (lv_at hl 0 rfl) ?_
  refine lv_iconst (v := 0) hx hb dX6_init_39 (by decide) ?_
  refine va_put (D := D) (ci := 5) (v := .int 0) (ty := .int) (C := RX6) (T := TX6) (N := 7) hx hb hts (fun _ h => List.mem_cons_of_mem _ (List.mem_append_left _ (List.mem_append_right _ h))) tyX6 tyX6_ok nmX6 hown hK hP hD hS 0 rfl rfl 5 (by decide) (hts (.fieldLink RX6 32 "WinterWalk$Tape" "place" "I") (List.mem_of_getElem? (i := 13) rfl)) (fun _ h9 => h9) rfl (by decide +kernel) rfl rfl (Nat.le_of_ble_eq_true rfl) dX6_init_40 (fun H locs hP hD hS => ?_)
  have hP : va_P D kl [(h, .inr (5, [.ref q_1, .ref q_2, .int 0, .int 0, .int 0, .int 0, .int 0])), (q_1, .inl (cI, 120, .inl (fun _ => 0))), (q_2, .inr (3, [.int 0, .int 0, .int 0, .int 0, .int 0, .int 0, .int 0, .int 0, .ref q3_0, .ref q3_1, .ref q3_2, .ref q3_3, .ref q3_4, .ref q3_5, .ref q3_6, .ref q3_7])), (q3_0, .inl (cI, 8, .inl (fun _ => 0))), (q3_1, .inl (cI, 8, .inl (fun _ => 0))), (q3_2, .inl (cI, 8, .inl (fun _ => 0))), (q3_3, .inl (cI, 8, .inl (fun _ => 0))), (q3_4, .inl (cI, 8, .inl (fun _ => 0))), (q3_5, .inl (cI, 3, .inl (fun _ => 0))), (q3_6, .inl (cI, 3, .inl (fun _ => 0))), (q3_7, .inl (cI, 3, .inl (fun _ => 0)))] H := hP
  have hD : va_D A [(h, .inr (5, [.ref q_1, .ref q_2, .int 0, .int 0, .int 0, .int 0, .int 0])), (q_1, .inl (cI, 120, .inl (fun _ => 0))), (q_2, .inr (3, [.int 0, .int 0, .int 0, .int 0, .int 0, .int 0, .int 0, .int 0, .ref q3_0, .ref q3_1, .ref q3_2, .ref q3_3, .ref q3_4, .ref q3_5, .ref q3_6, .ref q3_7])), (q3_0, .inl (cI, 8, .inl (fun _ => 0))), (q3_1, .inl (cI, 8, .inl (fun _ => 0))), (q3_2, .inl (cI, 8, .inl (fun _ => 0))), (q3_3, .inl (cI, 8, .inl (fun _ => 0))), (q3_4, .inl (cI, 8, .inl (fun _ => 0))), (q3_5, .inl (cI, 3, .inl (fun _ => 0))), (q3_6, .inl (cI, 3, .inl (fun _ => 0))), (q3_7, .inl (cI, 3, .inl (fun _ => 0)))] := hD
  refine lv_aload_n hx hb dX6_init_43 rfl (lv_at hl 0 rfl) ?_
  refine lv_iconst (v := 0) hx hb dX6_init_44 (by decide) ?_
  refine va_put (D := D) (ci := 5) (v := .int 0) (ty := .boolean) (C := RX6) (T := TX6) (N := 7) hx hb hts (fun _ h => List.mem_cons_of_mem _ (List.mem_append_left _ (List.mem_append_right _ h))) tyX6 tyX6_ok nmX6 hown hK hP hD hS 0 rfl rfl 6 (by decide) (hts (.fieldLink RX6 35 "WinterWalk$Tape" "faulty" "Z") (List.mem_of_getElem? (i := 14) rfl)) (fun _ h9 => h9) rfl (by decide +kernel) rfl rfl (Nat.le_of_ble_eq_true rfl) dX6_init_45 (fun H locs hP hD hS => ?_)
  have hP : va_P D kl [(h, .inr (5, [.ref q_1, .ref q_2, .int 0, .int 0, .int 0, .int 0, .int 0])), (q_1, .inl (cI, 120, .inl (fun _ => 0))), (q_2, .inr (3, [.int 0, .int 0, .int 0, .int 0, .int 0, .int 0, .int 0, .int 0, .ref q3_0, .ref q3_1, .ref q3_2, .ref q3_3, .ref q3_4, .ref q3_5, .ref q3_6, .ref q3_7])), (q3_0, .inl (cI, 8, .inl (fun _ => 0))), (q3_1, .inl (cI, 8, .inl (fun _ => 0))), (q3_2, .inl (cI, 8, .inl (fun _ => 0))), (q3_3, .inl (cI, 8, .inl (fun _ => 0))), (q3_4, .inl (cI, 8, .inl (fun _ => 0))), (q3_5, .inl (cI, 3, .inl (fun _ => 0))), (q3_6, .inl (cI, 3, .inl (fun _ => 0))), (q3_7, .inl (cI, 3, .inl (fun _ => 0)))] H := hP
  have hD : va_D A [(h, .inr (5, [.ref q_1, .ref q_2, .int 0, .int 0, .int 0, .int 0, .int 0])), (q_1, .inl (cI, 120, .inl (fun _ => 0))), (q_2, .inr (3, [.int 0, .int 0, .int 0, .int 0, .int 0, .int 0, .int 0, .int 0, .ref q3_0, .ref q3_1, .ref q3_2, .ref q3_3, .ref q3_4, .ref q3_5, .ref q3_6, .ref q3_7])), (q3_0, .inl (cI, 8, .inl (fun _ => 0))), (q3_1, .inl (cI, 8, .inl (fun _ => 0))), (q3_2, .inl (cI, 8, .inl (fun _ => 0))), (q3_3, .inl (cI, 8, .inl (fun _ => 0))), (q3_4, .inl (cI, 8, .inl (fun _ => 0))), (q3_5, .inl (cI, 3, .inl (fun _ => 0))), (q3_6, .inl (cI, 3, .inl (fun _ => 0))), (q3_7, .inl (cI, 3, .inl (fun _ => 0)))] := hD
  exact wr_v hx hb hr hlocks hS (q_1, q_2, q3_0, q3_1, q3_2, q3_3, q3_4, q3_5, q3_6, q3_7) (by trivial) (hP.sub [0, 1, 2, 3, 4, 5, 6, 7, 8, 9, 10] rfl) (hD.sub [0, 1, 2, 3, 4, 5, 6, 7, 8, 9, 10] (by decide) rfl) dX6_init_48
set_option maxHeartbeats 4000000 in
set_option maxRecDepth 100000 in
theorem k_acts_init (l : Launch) (D : va_G) (cI cB cQ : ClassId) (sz : Nat) (h : Nat) : mv l yX0_init wsX0_init ({ frames := 1, cells := 1, slots := 24, locals := 20 }) D cI cB cQ [.ref h] sz [(h, .inr (0, [.null, .int 0, .int 0]))] (fun (u : Nat) => True) (fun u => [(h, .inr (0, [.ref u, .int 0, .int 0]))]) 1 24 := by
  refine wm_v (cc := cX0_init) (maxL := 1) (ret := none) (by decide) rfl (Nat.le_of_ble_eq_true rfl) ?_
  intro p e s m below meth c A ls hx hb hr hml hown hts hlocks hin hP hK hD hN hA hl hS
  have hown : s.vm.findClass RX0 = some m.cls := hown
  have hl : lv_has ls 1 [(0, .ref h)] := hl
  change W p l e ({ frames := 1, cells := 1, slots := 24, locals := 20 }) s m ([.ref h] : List Value).toArray below meth c s.heap [] 0 0 (MQ below (va_Qv (fun (u : Nat) => True) (fun u t => wb D A ((fun u => [(h, .inr (0, [.ref u, .int 0, .int 0]))]) u) t) A) ([.ref h] : List Value).toArray s 1 24 A) (F0 m 0 ls [])
  refine lv_aload_n hx hb dX0_init_0 rfl (lv_at hl 0 rfl) ?_
  refine W.objInit hx hb hown (hts (.methodLink RX0 1 objectInit) (List.mem_of_getElem? (i := 1) rfl)) (hts (.instanceMethod objectInit) (List.mem_of_getElem? (i := 2) rfl)) (hts (.code objectInit ⟨#[0xb1]⟩ 1 none) (List.mem_of_getElem? (i := 3) rfl)) rfl (by rw [hml]; exact hl.1) rfl dX0_init_1 (Nat.le_of_ble_eq_true rfl) (Nat.le_of_ble_eq_true rfl) ?_
  refine W.eq (g2 := F0 m 4 ls []) rfl ?_
  refine lv_aload_n hx hb dX0_init_4 rfl (lv_at hl 0 rfl) ?_
  refine lv_bipush (v := 24) hx hb dX0_init_5 (by decide) ?_
  refine wn_q (N' := 24) hx hb hown (hts (.classLink RX0 9 RX4) (List.mem_of_getElem? (i := 4) rfl)) hN hK hP hD hS hA (by decide) (by decide) (Nat.le_of_ble_eq_true rfl) (Nat.le_of_ble_eq_true rfl) (Nat.le_of_ble_eq_true rfl) dX0_init_7 (fun q_1 H hP hD hS => ?_)
  have hP : va_P D kl [(h, .inr (0, [.null, .int 0, .int 0])), (q_1, .inl (cQ, 24, .inr (.inr (.inr (.inr (fun _ => none))))))] H := hP
  have hD : va_D A [(h, .inr (0, [.null, .int 0, .int 0])), (q_1, .inl (cQ, 24, .inr (.inr (.inr (.inr (fun _ => none))))))] := hD
  refine W.widen (k := 1) (n := 24) (Nat.le_of_ble_eq_true rfl) (Nat.le_of_ble_eq_true rfl) ?_
  refine va_putF (D := D) (ci := 0) (v := .ref q_1) (ty := .array (.object "WinterWalk$Land")) (C := RX0) (T := TX0) (N := 3) hx hb hts (fun _ h => List.mem_cons_of_mem _ (List.mem_append_right _ h)) tyX0 tyX0_ok nmX0 hown hK hP hD hS 0 rfl rfl 0 (by decide) (hts (.fieldLink RX0 11 "WinterWalk$Acts" "ring" "[LWinterWalk$Land;") (List.mem_of_getElem? (i := 5) rfl)) (fun _ h9 => h9) rfl hin rfl (by decide +kernel) rfl rfl (Nat.le_of_ble_eq_true rfl) dX0_init_10 (fun H locs hP hD hS => ?_)
  have hP : va_P D kl [(h, .inr (0, [.ref q_1, .int 0, .int 0])), (q_1, .inl (cQ, 24, .inr (.inr (.inr (.inr (fun _ => none))))))] H := hP
  have hD : va_D A [(h, .inr (0, [.ref q_1, .int 0, .int 0])), (q_1, .inl (cQ, 24, .inr (.inr (.inr (.inr (fun _ => none))))))] := hD
  refine lv_aload_n hx hb dX0_init_13 rfl (lv_at hl 0 rfl) ?_
  refine lv_iconst (v := 0) hx hb dX0_init_14 (by decide) ?_
  refine va_put (D := D) (ci := 0) (v := .int 0) (ty := .int) (C := RX0) (T := TX0) (N := 3) hx hb hts (fun _ h => List.mem_cons_of_mem _ (List.mem_append_right _ h)) tyX0 tyX0_ok nmX0 hown hK hP hD hS 0 rfl rfl 1 (by decide) (hts (.fieldLink RX0 15 "WinterWalk$Acts" "nextSlot" "I") (List.mem_of_getElem? (i := 6) rfl)) (fun _ h9 => h9) rfl (by decide +kernel) rfl rfl (Nat.le_of_ble_eq_true rfl) dX0_init_15 (fun H locs hP hD hS => ?_)
  have hP : va_P D kl [(h, .inr (0, [.ref q_1, .int 0, .int 0])), (q_1, .inl (cQ, 24, .inr (.inr (.inr (.inr (fun _ => none))))))] H := hP
  have hD : va_D A [(h, .inr (0, [.ref q_1, .int 0, .int 0])), (q_1, .inl (cQ, 24, .inr (.inr (.inr (.inr (fun _ => none))))))] := hD
  refine lv_aload_n hx hb dX0_init_18 rfl (lv_at hl 0 rfl) ?_
  refine lv_iconst (v := 0) hx hb dX0_init_19 (by decide) ?_
  refine va_put (D := D) (ci := 0) (v := .int 0) (ty := .int) (C := RX0) (T := TX0) (N := 3) hx hb hts (fun _ h => List.mem_cons_of_mem _ (List.mem_append_right _ h)) tyX0 tyX0_ok nmX0 hown hK hP hD hS 0 rfl rfl 2 (by decide) (hts (.fieldLink RX0 19 "WinterWalk$Acts" "kept" "I") (List.mem_of_getElem? (i := 7) rfl)) (fun _ h9 => h9) rfl (by decide +kernel) rfl rfl (Nat.le_of_ble_eq_true rfl) dX0_init_20 (fun H locs hP hD hS => ?_)
  have hP : va_P D kl [(h, .inr (0, [.ref q_1, .int 0, .int 0])), (q_1, .inl (cQ, 24, .inr (.inr (.inr (.inr (fun _ => none))))))] H := hP
  have hD : va_D A [(h, .inr (0, [.ref q_1, .int 0, .int 0])), (q_1, .inl (cQ, 24, .inr (.inr (.inr (.inr (fun _ => none))))))] := hD
  exact wr_v hx hb hr hlocks hS q_1 (by trivial) (hP.sub [0] rfl) (hD.sub [0] (by decide) rfl) dX0_init_23
set_option maxHeartbeats 4000000 in
set_option maxRecDepth 100000 in
theorem k_fore_init (l : Launch) (D : va_G) (cI cB cQ : ClassId) (sz : Nat) (h : Nat) (nw : Nat) : mv l yX2_init wsX2_init ({ frames := 2, cells := 9, slots := 65, locals := 40 }) D cI cB cQ [.ref h, .ref nw] sz [(h, .inr (2, [.null, .null]))] (fun (_u : Unit) => True) (fun _ => []) 9 65 := by
  refine wm_v (cc := cX2_init) (maxL := 2) (ret := none) (by decide) rfl (Nat.le_of_ble_eq_true rfl) ?_
  intro p e s m below meth c A ls hx hb hr hml hown hts hlocks hin hP hK hD hN hA hl hS
  have hown : s.vm.findClass RX2 = some m.cls := hown
  have hl : lv_has ls 2 [(0, .ref h), (1, .ref nw)] := hl
  change W p l e ({ frames := 2, cells := 9, slots := 65, locals := 40 }) s m ([.ref h, .ref nw] : List Value).toArray below meth c s.heap [] 0 0 (MQ below (va_Qv (fun (_u : Unit) => True) (fun u t => wb D A ((fun _ => []) u) t) A) ([.ref h, .ref nw] : List Value).toArray s 9 65 A) (F0 m 0 ls [])
  refine lv_aload_n hx hb dX2_init_0 rfl (lv_at hl 0 rfl) ?_
  refine W.objInit hx hb hown (hts (.methodLink RX2 3 objectInit) (List.mem_of_getElem? (i := 1) rfl)) (hts (.instanceMethod objectInit) (List.mem_of_getElem? (i := 2) rfl)) (hts (.code objectInit ⟨#[0xb1]⟩ 1 none) (List.mem_of_getElem? (i := 3) rfl)) rfl (by rw [hml]; exact hl.1) rfl dX2_init_1 (Nat.le_of_ble_eq_true rfl) (Nat.le_of_ble_eq_true rfl) ?_
  refine W.eq (g2 := F0 m 4 ls []) rfl ?_
  refine lv_aload_n hx hb dX2_init_4 rfl (lv_at hl 0 rfl) ?_
  refine va_new (ci := 3) (fs := [.int 0, .int 0, .int 0, .int 0, .int 0, .int 0, .int 0, .int 0, .null, .null, .null, .null, .null, .null, .null, .null]) (C := RX4) (T := TX4) (N := 16) hx hb hts (fun _ h => List.mem_cons_of_mem _ (List.mem_append_left _ (List.mem_append_right _ h))) tyX4 tyX4_ok hown (hts (.classLink RX2 9 RX4) (List.mem_of_getElem? (i := 4) rfl)) (hts (.instantiable RX4 16) (List.mem_of_getElem? (i := 5) rfl)) (hts (.initialized RX4) (List.mem_of_getElem? (i := 6) rfl)) hK hP hD hS hA rfl (fun j hj => by rcases (show j = 0 ∨ j = 1 ∨ j = 2 ∨ j = 3 ∨ j = 4 ∨ j = 5 ∨ j = 6 ∨ j = 7 ∨ j = 8 ∨ j = 9 ∨ j = 10 ∨ j = 11 ∨ j = 12 ∨ j = 13 ∨ j = 14 ∨ j = 15 by omega) with rfl | rfl | rfl | rfl | rfl | rfl | rfl | rfl | rfl | rfl | rfl | rfl | rfl | rfl | rfl | rfl <;> rfl) (Nat.le_of_ble_eq_true rfl) (Nat.le_of_ble_eq_true rfl) dX2_init_5 (fun q_1 H hP hD hS => ?_)
  have hP : va_P D kl [(h, .inr (2, [.null, .null])), (q_1, .inr (3, [.int 0, .int 0, .int 0, .int 0, .int 0, .int 0, .int 0, .int 0, .null, .null, .null, .null, .null, .null, .null, .null]))] H := hP
  have hD : va_D A [(h, .inr (2, [.null, .null])), (q_1, .inr (3, [.int 0, .int 0, .int 0, .int 0, .int 0, .int 0, .int 0, .int 0, .null, .null, .null, .null, .null, .null, .null, .null]))] := hD
  refine W.widen (k := 1) (n := 16) (Nat.le_of_ble_eq_true rfl) (Nat.le_of_ble_eq_true rfl) ?_
  refine lv_dup hx hb dX2_init_8 rfl ?_
  have k_2 := (k_land_init l D cI cB cQ H.size q_1)
  refine wc_v (WC := [(q_1, .inr (3, [.int 0, .int 0, .int 0, .int 0, .int 0, .int 0, .int 0, .int 0, .null, .null, .null, .null, .null, .null, .null, .null]))]) (WR := [(h, .inr (2, [.null, .null]))]) (va_runIN (As := []) (rest := [.ref q_1, .ref h]) ⟨hx, hb, hml, hown, hts⟩ k_2 (⟨va_cnB 0 hts gX2_init_X4_init_n11 rfl rfl rfl hN.2.2.2.2.1 (hts (.initialized RX4) (List.mem_of_getElem? (i := 6) rfl)) (by decide +kernel) ⟨Nat.le_of_ble_eq_true rfl, Nat.le_of_ble_eq_true rfl⟩, rfl, (hts (.instanceMethod yX4_init) (List.mem_of_getElem? (i := 9) rfl))⟩) (wp_S hP hK hD hN [1] (by decide) rfl) rfl rfl hl.1 rfl (lv_room (Nat.le_of_ble_eq_true rfl)) dX2_init_9 ⟨Nat.le_of_ble_eq_true rfl, Nat.le_of_ble_eq_true rfl⟩) hP hD hS hA [1] [0] rfl rfl (by decide) (by decide) (fun u_2 H locs hw_2 hP hD hS => ?_)
  obtain ⟨q2_0, q2_1, q2_2, q2_3, q2_4, q2_5, q2_6, q2_7⟩ := u_2
  have hP : va_P D kl [(h, .inr (2, [.null, .null])), (q_1, .inr (3, [.int 0, .int 0, .int 0, .int 0, .int 0, .int 0, .int 0, .int 0, .ref q2_0, .ref q2_1, .ref q2_2, .ref q2_3, .ref q2_4, .ref q2_5, .ref q2_6, .ref q2_7])), (q2_0, .inl (cI, 8, .inl (fun _ => 0))), (q2_1, .inl (cI, 8, .inl (fun _ => 0))), (q2_2, .inl (cI, 8, .inl (fun _ => 0))), (q2_3, .inl (cI, 8, .inl (fun _ => 0))), (q2_4, .inl (cI, 8, .inl (fun _ => 0))), (q2_5, .inl (cI, 3, .inl (fun _ => 0))), (q2_6, .inl (cI, 3, .inl (fun _ => 0))), (q2_7, .inl (cI, 3, .inl (fun _ => 0)))] H := hP
  have hD : va_D A [(h, .inr (2, [.null, .null])), (q_1, .inr (3, [.int 0, .int 0, .int 0, .int 0, .int 0, .int 0, .int 0, .int 0, .ref q2_0, .ref q2_1, .ref q2_2, .ref q2_3, .ref q2_4, .ref q2_5, .ref q2_6, .ref q2_7])), (q2_0, .inl (cI, 8, .inl (fun _ => 0))), (q2_1, .inl (cI, 8, .inl (fun _ => 0))), (q2_2, .inl (cI, 8, .inl (fun _ => 0))), (q2_3, .inl (cI, 8, .inl (fun _ => 0))), (q2_4, .inl (cI, 8, .inl (fun _ => 0))), (q2_5, .inl (cI, 3, .inl (fun _ => 0))), (q2_6, .inl (cI, 3, .inl (fun _ => 0))), (q2_7, .inl (cI, 3, .inl (fun _ => 0)))] := hD
  refine W.widen (k := 9) (n := 65) (Nat.le_of_ble_eq_true rfl) (Nat.le_of_ble_eq_true rfl) ?_
  refine va_putF (D := D) (ci := 2) (v := .ref q_1) (ty := .object "WinterWalk$Land") (C := RX2) (T := TX2) (N := 2) hx hb hts (fun _ h => List.mem_cons_of_mem _ (List.mem_append_right _ h)) tyX2 tyX2_ok nmX2 hown hK hP hD hS 0 rfl rfl 1 (by decide) (hts (.fieldLink RX2 12 "WinterWalk$Foretelling" "then" "LWinterWalk$Land;") (List.mem_of_getElem? (i := 7) rfl)) (fun _ h9 => h9) rfl hin rfl (by decide +kernel) rfl rfl (Nat.le_of_ble_eq_true rfl) dX2_init_12 (fun H locs hP hD hS => ?_)
  have hP : va_P D kl [(h, .inr (2, [.null, .ref q_1])), (q_1, .inr (3, [.int 0, .int 0, .int 0, .int 0, .int 0, .int 0, .int 0, .int 0, .ref q2_0, .ref q2_1, .ref q2_2, .ref q2_3, .ref q2_4, .ref q2_5, .ref q2_6, .ref q2_7])), (q2_0, .inl (cI, 8, .inl (fun _ => 0))), (q2_1, .inl (cI, 8, .inl (fun _ => 0))), (q2_2, .inl (cI, 8, .inl (fun _ => 0))), (q2_3, .inl (cI, 8, .inl (fun _ => 0))), (q2_4, .inl (cI, 8, .inl (fun _ => 0))), (q2_5, .inl (cI, 3, .inl (fun _ => 0))), (q2_6, .inl (cI, 3, .inl (fun _ => 0))), (q2_7, .inl (cI, 3, .inl (fun _ => 0)))] H := hP
  have hD : va_D A [(h, .inr (2, [.null, .ref q_1])), (q_1, .inr (3, [.int 0, .int 0, .int 0, .int 0, .int 0, .int 0, .int 0, .int 0, .ref q2_0, .ref q2_1, .ref q2_2, .ref q2_3, .ref q2_4, .ref q2_5, .ref q2_6, .ref q2_7])), (q2_0, .inl (cI, 8, .inl (fun _ => 0))), (q2_1, .inl (cI, 8, .inl (fun _ => 0))), (q2_2, .inl (cI, 8, .inl (fun _ => 0))), (q2_3, .inl (cI, 8, .inl (fun _ => 0))), (q2_4, .inl (cI, 8, .inl (fun _ => 0))), (q2_5, .inl (cI, 3, .inl (fun _ => 0))), (q2_6, .inl (cI, 3, .inl (fun _ => 0))), (q2_7, .inl (cI, 3, .inl (fun _ => 0)))] := hD
  refine lv_aload_n hx hb dX2_init_15 rfl (lv_at hl 0 rfl) ?_
  refine lv_aload_n hx hb dX2_init_16 rfl (lv_at hl 1 rfl) ?_
  refine va_putF (D := D) (ci := 2) (v := .ref nw) (ty := .object "WinterWalk$Land") (C := RX2) (T := TX2) (N := 2) hx hb hts (fun _ h => List.mem_cons_of_mem _ (List.mem_append_right _ h)) tyX2 tyX2_ok nmX2 hown hK hP hD hS 0 rfl rfl 0 (by decide) (hts (.fieldLink RX2 18 "WinterWalk$Foretelling" "now" "LWinterWalk$Land;") (List.mem_of_getElem? (i := 8) rfl)) (fun _ h9 => h9) rfl hin rfl (by decide +kernel) rfl rfl (Nat.le_of_ble_eq_true rfl) dX2_init_17 (fun H locs hP hD hS => ?_)
  have hP : va_P D kl [(h, .inr (2, [.ref nw, .ref q_1])), (q_1, .inr (3, [.int 0, .int 0, .int 0, .int 0, .int 0, .int 0, .int 0, .int 0, .ref q2_0, .ref q2_1, .ref q2_2, .ref q2_3, .ref q2_4, .ref q2_5, .ref q2_6, .ref q2_7])), (q2_0, .inl (cI, 8, .inl (fun _ => 0))), (q2_1, .inl (cI, 8, .inl (fun _ => 0))), (q2_2, .inl (cI, 8, .inl (fun _ => 0))), (q2_3, .inl (cI, 8, .inl (fun _ => 0))), (q2_4, .inl (cI, 8, .inl (fun _ => 0))), (q2_5, .inl (cI, 3, .inl (fun _ => 0))), (q2_6, .inl (cI, 3, .inl (fun _ => 0))), (q2_7, .inl (cI, 3, .inl (fun _ => 0)))] H := hP
  have hD : va_D A [(h, .inr (2, [.ref nw, .ref q_1])), (q_1, .inr (3, [.int 0, .int 0, .int 0, .int 0, .int 0, .int 0, .int 0, .int 0, .ref q2_0, .ref q2_1, .ref q2_2, .ref q2_3, .ref q2_4, .ref q2_5, .ref q2_6, .ref q2_7])), (q2_0, .inl (cI, 8, .inl (fun _ => 0))), (q2_1, .inl (cI, 8, .inl (fun _ => 0))), (q2_2, .inl (cI, 8, .inl (fun _ => 0))), (q2_3, .inl (cI, 8, .inl (fun _ => 0))), (q2_4, .inl (cI, 8, .inl (fun _ => 0))), (q2_5, .inl (cI, 3, .inl (fun _ => 0))), (q2_6, .inl (cI, 3, .inl (fun _ => 0))), (q2_7, .inl (cI, 3, .inl (fun _ => 0)))] := hD
  exact wr_v hx hb hr hlocks hS () (by trivial) (hP.sub [] rfl) (hD.sub [] (by decide) rfl) dX2_init_20
set_option maxHeartbeats 4000000 in
set_option maxRecDepth 100000 in
theorem k_asks_init (l : Launch) (D : va_G) (cI cB cQ : ClassId) (sz : Nat) (h : Nat) (nw : Nat) : mv l yX1_init wsX1_init ({ frames := 1, cells := 1, slots := 16, locals := 20 }) D cI cB cQ [.ref h, .ref nw] sz [(h, .inr (1, [.null, .null, .int 0]))] (fun (u : Nat) => True) (fun u => [(h, .inr (1, [.ref nw, .ref u, .int 0]))]) 1 16 := by
  refine wm_v (cc := cX1_init) (maxL := 2) (ret := none) (by decide) rfl (Nat.le_of_ble_eq_true rfl) ?_
  intro p e s m below meth c A ls hx hb hr hml hown hts hlocks hin hP hK hD hN hA hl hS
  have hown : s.vm.findClass RX1 = some m.cls := hown
  have hl : lv_has ls 2 [(0, .ref h), (1, .ref nw)] := hl
  change W p l e ({ frames := 1, cells := 1, slots := 16, locals := 20 }) s m ([.ref h, .ref nw] : List Value).toArray below meth c s.heap [] 0 0 (MQ below (va_Qv (fun (u : Nat) => True) (fun u t => wb D A ((fun u => [(h, .inr (1, [.ref nw, .ref u, .int 0]))]) u) t) A) ([.ref h, .ref nw] : List Value).toArray s 1 16 A) (F0 m 0 ls [])
  refine lv_aload_n hx hb dX1_init_0 rfl (lv_at hl 0 rfl) ?_
  refine W.objInit hx hb hown (hts (.methodLink RX1 3 objectInit) (List.mem_of_getElem? (i := 1) rfl)) (hts (.instanceMethod objectInit) (List.mem_of_getElem? (i := 2) rfl)) (hts (.code objectInit ⟨#[0xb1]⟩ 1 none) (List.mem_of_getElem? (i := 3) rfl)) rfl (by rw [hml]; exact hl.1) rfl dX1_init_1 (Nat.le_of_ble_eq_true rfl) (Nat.le_of_ble_eq_true rfl) ?_
  refine W.eq (g2 := F0 m 4 ls []) rfl ?_
  refine lv_aload_n hx hb dX1_init_4 rfl (lv_at hl 0 rfl) ?_
  refine lv_bipush (v := 16) hx hb dX1_init_5 (by decide) ?_
  refine wn_i (N' := 16) hx hb (hts (.arrayClass .int) (List.mem_of_getElem? (i := 4) rfl)) hK hP hD hS hA (by decide) (by decide) (Nat.le_of_ble_eq_true rfl) (Nat.le_of_ble_eq_true rfl) (Nat.le_of_ble_eq_true rfl) dX1_init_7 (fun q_1 H hP hD hS => ?_)
  have hP : va_P D kl [(h, .inr (1, [.null, .null, .int 0])), (q_1, .inl (cI, 16, .inl (fun _ => 0)))] H := hP
  have hD : va_D A [(h, .inr (1, [.null, .null, .int 0])), (q_1, .inl (cI, 16, .inl (fun _ => 0)))] := hD
  refine W.widen (k := 1) (n := 16) (Nat.le_of_ble_eq_true rfl) (Nat.le_of_ble_eq_true rfl) ?_
  refine va_putF (D := D) (ci := 1) (v := .ref q_1) (ty := .array .int) (C := RX1) (T := TX1) (N := 3) hx hb hts (fun _ h => List.mem_cons_of_mem _ (List.mem_append_right _ h)) tyX1 tyX1_ok nmX1 hown hK hP hD hS 0 rfl rfl 1 (by decide) (hts (.fieldLink RX1 11 "WinterWalk$Asks" "bodies" "[I") (List.mem_of_getElem? (i := 5) rfl)) (fun _ h9 => h9) rfl hin rfl (by decide +kernel) rfl rfl (Nat.le_of_ble_eq_true rfl) dX1_init_9 (fun H locs hP hD hS => ?_)
  have hP : va_P D kl [(h, .inr (1, [.null, .ref q_1, .int 0])), (q_1, .inl (cI, 16, .inl (fun _ => 0)))] H := hP
  have hD : va_D A [(h, .inr (1, [.null, .ref q_1, .int 0])), (q_1, .inl (cI, 16, .inl (fun _ => 0)))] := hD
  refine lv_aload_n hx hb dX1_init_12 rfl (lv_at hl 0 rfl) ?_
  refine lv_iconst (v := 0) hx hb dX1_init_13 (by decide) ?_
  refine va_put (D := D) (ci := 1) (v := .int 0) (ty := .int) (C := RX1) (T := TX1) (N := 3) hx hb hts (fun _ h => List.mem_cons_of_mem _ (List.mem_append_right _ h)) tyX1 tyX1_ok nmX1 hown hK hP hD hS 0 rfl rfl 2 (by decide) (hts (.fieldLink RX1 15 "WinterWalk$Asks" "traced" "I") (List.mem_of_getElem? (i := 6) rfl)) (fun _ h9 => h9) rfl (by decide +kernel) rfl rfl (Nat.le_of_ble_eq_true rfl) dX1_init_14 (fun H locs hP hD hS => ?_)
  have hP : va_P D kl [(h, .inr (1, [.null, .ref q_1, .int 0])), (q_1, .inl (cI, 16, .inl (fun _ => 0)))] H := hP
  have hD : va_D A [(h, .inr (1, [.null, .ref q_1, .int 0])), (q_1, .inl (cI, 16, .inl (fun _ => 0)))] := hD
  refine lv_aload_n hx hb dX1_init_17 rfl (lv_at hl 0 rfl) ?_
  refine lv_aload_n hx hb dX1_init_18 rfl (lv_at hl 1 rfl) ?_
  refine va_putF (D := D) (ci := 1) (v := .ref nw) (ty := .object "WinterWalk$Land") (C := RX1) (T := TX1) (N := 3) hx hb hts (fun _ h => List.mem_cons_of_mem _ (List.mem_append_right _ h)) tyX1 tyX1_ok nmX1 hown hK hP hD hS 0 rfl rfl 0 (by decide) (hts (.fieldLink RX1 19 "WinterWalk$Asks" "land" "LWinterWalk$Land;") (List.mem_of_getElem? (i := 7) rfl)) (fun _ h9 => h9) rfl hin rfl (by decide +kernel) rfl rfl (Nat.le_of_ble_eq_true rfl) dX1_init_19 (fun H locs hP hD hS => ?_)
  have hP : va_P D kl [(h, .inr (1, [.ref nw, .ref q_1, .int 0])), (q_1, .inl (cI, 16, .inl (fun _ => 0)))] H := hP
  have hD : va_D A [(h, .inr (1, [.ref nw, .ref q_1, .int 0])), (q_1, .inl (cI, 16, .inl (fun _ => 0)))] := hD
  exact wr_v hx hb hr hlocks hS q_1 (by trivial) (hP.sub [0] rfl) (hD.sub [0] (by decide) rfl) dX1_init_22
