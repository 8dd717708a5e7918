set_option maxHeartbeats 4000000 in
set_option maxRecDepth 100000 in
theorem kx_row (l : Launch) (D : va_G) (cI cB cQ : ClassId) (sz : Nat) (h : Nat) (rw : Nat) (tp : Nat) (nw : Nat) (ac : Nat) (im : Nat) (fo : Nat) (ak : Nat) (la : Nat) (sq : Nat) (ir : Nat) (p0 : Int32) (p1 : Int32) (p2 : Int32) : mi l yX7_row wsX7_row ({ frames := 3, cells := 0, slots := 0, locals := 69 }) D cI cB cQ [.ref h, .int p0, .int p1, .int p2] sz [(h, .inr (6, [.ref rw, .ref tp, .ref nw, .ref ac, .ref im, .ref fo, .ref ak, .int 0])), (rw, .inr (4, [.ref la, .ref sq, .ref ir])), (la, .inl (cI, 8, .inl (fun _ => (-1)))), (sq, .inl (cI, 8, .inl (fun _ => 0))), (ir, .inl (cI, 320, .inl (fun _ => 0)))] (fun (r : Int32) (_u : Unit) => r = sp_row p0 p1 p2) (fun _ => []) 0 0 := by
  refine wm_i (cc := cX7_row) (maxL := 4) (ret := (some .int)) (by decide) rfl (Nat.le_of_ble_eq_true rfl) ?_
  intro p e s m below meth c A ls hx hb hr hml hown hts hlocks hin hP hK hD hN hA hl hS
  have hown : s.vm.findClass RX7 = some m.cls := hown
  have hl : lv_has ls 4 [(0, .ref h), (1, .int p0), (2, .int p1), (3, .int p2)] := hl
  change W p l e ({ frames := 3, cells := 0, slots := 0, locals := 69 }) s m ([.ref h, .int p0, .int p1, .int p2] : List Value).toArray below meth c s.heap [] 0 0 (MQ below (va_Qi (fun (r : Int32) (_u : Unit) => r = sp_row p0 p1 p2) (fun u t => wb D A ((fun _ => []) u) t) A) ([.ref h, .int p0, .int p1, .int p2] : List Value).toArray s 0 0 A) (F0 m 0 ls [])
  refine lv_iload_n hx hb dX7_row_0 rfl (lv_at hl 1 rfl) ?_
  have k_1 := (k_isRow l D cI cB cQ s.heap.size p0)
  refine wc_i (WC := []) (WR := [(h, .inr (6, [.ref rw, .ref tp, .ref nw, .ref ac, .ref im, .ref fo, .ref ak, .int 0])), (rw, .inr (4, [.ref la, .ref sq, .ref ir])), (la, .inl (cI, 8, .inl (fun _ => (-1)))), (sq, .inl (cI, 8, .inl (fun _ => 0))), (ir, .inl (cI, 320, .inl (fun _ => 0)))]) (va_runS (As := [.int p0]) (rest := []) ⟨hx, hb, hml, hown, hts⟩ k_1 (va_cwS 1 hts gX7_row_X5_isRow rfl rfl rfl (by decide +kernel) ⟨Nat.le_of_ble_eq_true rfl, Nat.le_of_ble_eq_true rfl⟩) (wp_S hP hK hD hN [] (by decide) rfl) rfl rfl hl.1 rfl (lv_room (Nat.le_of_ble_eq_true rfl)) dX7_row_1 ⟨Nat.le_of_ble_eq_true rfl, Nat.le_of_ble_eq_true rfl⟩) hP hD hS hA [] [0, 1, 2, 3, 4] rfl rfl (by decide) (by decide) (fun r_1 u_1 H locs hw_1 hP hD hS => ?_)
  have hP : va_P D kl [(h, .inr (6, [.ref rw, .ref tp, .ref nw, .ref ac, .ref im, .ref fo, .ref ak, .int 0])), (rw, .inr (4, [.ref la, .ref sq, .ref ir])), (la, .inl (cI, 8, .inl (fun _ => (-1)))), (sq, .inl (cI, 8, .inl (fun _ => 0))), (ir, .inl (cI, 320, .inl (fun _ => 0)))] H := hP
  have hD : va_D A [(h, .inr (6, [.ref rw, .ref tp, .ref nw, .ref ac, .ref im, .ref fo, .ref ak, .int 0])), (rw, .inr (4, [.ref la, .ref sq, .ref ir])), (la, .inl (cI, 8, .inl (fun _ => (-1)))), (sq, .inl (cI, 8, .inl (fun _ => 0))), (ir, .inl (cI, 320, .inl (fun _ => 0)))] := hD
  rcases hw_1 with ⟨e_1, f_1⟩ | ⟨e_1, f_1⟩
  · subst e_1
    have f_1 : 0 ≤ p0.toInt ∧ p0.toInt ≤ 7 := f_1
    refine lv_if_eq (tgt := 20) hx hb dX7_row_4 (by decide) (fun c9 => absurd c9 (by decide)) (fun _ => ?_)
    refine lv_iload_n hx hb dX7_row_7 rfl (lv_at hl 2 rfl) ?_
    have k_2 := (k_isLane l D cI cB cQ H.size p1)
    refine wc_i (WC := []) (WR := [(h, .inr (6, [.ref rw, .ref tp, .ref nw, .ref ac, .ref im, .ref fo, .ref ak, .int 0])), (rw, .inr (4, [.ref la, .ref sq, .ref ir])), (la, .inl (cI, 8, .inl (fun _ => (-1)))), (sq, .inl (cI, 8, .inl (fun _ => 0))), (ir, .inl (cI, 320, .inl (fun _ => 0)))]) (va_runS (As := [.int p1]) (rest := []) ⟨hx, hb, hml, hown, hts⟩ k_2 (va_cwS 1 hts gX7_row_X5_isLane rfl rfl rfl (by decide +kernel) ⟨Nat.le_of_ble_eq_true rfl, Nat.le_of_ble_eq_true rfl⟩) (wp_S hP hK hD hN [] (by decide) rfl) rfl rfl hl.1 rfl (lv_room (Nat.le_of_ble_eq_true rfl)) dX7_row_8 ⟨Nat.le_of_ble_eq_true rfl, Nat.le_of_ble_eq_true rfl⟩) hP hD hS hA [] [0, 1, 2, 3, 4] rfl rfl (by decide) (by decide) (fun r_2 u_2 H locs hw_2 hP hD hS => ?_)
    have hP : va_P D kl [(h, .inr (6, [.ref rw, .ref tp, .ref nw, .ref ac, .ref im, .ref fo, .ref ak, .int 0])), (rw, .inr (4, [.ref la, .ref sq, .ref ir])), (la, .inl (cI, 8, .inl (fun _ => (-1)))), (sq, .inl (cI, 8, .inl (fun _ => 0))), (ir, .inl (cI, 320, .inl (fun _ => 0)))] H := hP
    have hD : va_D A [(h, .inr (6, [.ref rw, .ref tp, .ref nw, .ref ac, .ref im, .ref fo, .ref ak, .int 0])), (rw, .inr (4, [.ref la, .ref sq, .ref ir])), (la, .inl (cI, 8, .inl (fun _ => (-1)))), (sq, .inl (cI, 8, .inl (fun _ => 0))), (ir, .inl (cI, 320, .inl (fun _ => 0)))] := hD
    rcases hw_2 with ⟨e_2, f_2⟩ | ⟨e_2, f_2⟩
    · subst e_2
      have f_2 : 0 ≤ p1.toInt ∧ p1.toInt ≤ 2 := f_2
      refine lv_if_eq (tgt := 20) hx hb dX7_row_11 (by decide) (fun c9 => absurd c9 (by decide)) (fun _ => ?_)
      refine lv_iload_n hx hb dX7_row_14 rfl (lv_at hl 3 rfl) ?_
      refine lv_bipush (v := 40) hx hb dX7_row_15 (by decide) ?_
      refine lv_icmp_le (tgt := 23) hx hb dX7_row_17 (by decide) (fun c_3 => ?_) (fun c_3 => ?_)
      · have f_3 : p2.toInt ≤ 40 := zi_le c_3
        refine lv_iload_n hx hb dX7_row_23 rfl (lv_at hl 3 rfl) ?_
        refine lv_if_ge (tgt := 33) hx hb dX7_row_24 (by decide) (fun c_4 => ?_) (fun c_4 => ?_)
        · have f_4 : 0 ≤ p2.toInt := zi_le c_4
          refine lv_aload_n hx hb dX7_row_33 rfl (lv_at hl 0 rfl) ?_
          refine va_get (D := D) (ci := 6) (v := .ref rw) (C := RX7) (T := TX7) (N := 8) hx hb hts (fun _ h => List.mem_cons_of_mem _ (List.mem_append_left _ (List.mem_append_right _ h))) hown hK hP 0 rfl rfl 0 (by decide) (hts (.fieldLink RX7 10 "WinterWalk" "rows" "LWinterWalk$Rows;") (List.mem_of_getElem? (i := 2) rfl)) (fun _ h9 => h9) rfl dX7_row_34 ?_
          refine lv_iload_n hx hb dX7_row_37 rfl (lv_at hl 1 rfl) ?_
          refine lv_iload_n hx hb dX7_row_38 rfl (lv_at hl 2 rfl) ?_
          refine lv_iload_n hx hb dX7_row_39 rfl (lv_at hl 3 rfl) ?_
          have k_5 := (k_lay l D cI cB cQ H.size rw la sq ir p0 p1 p2 (by omega))
          refine wc_v (WC := [(rw, .inr (4, [.ref la, .ref sq, .ref ir])), (la, .inl (cI, 8, .inl (fun _ => (-1)))), (sq, .inl (cI, 8, .inl (fun _ => 0))), (ir, .inl (cI, 320, .inl (fun _ => 0)))]) (WR := [(h, .inr (6, [.ref rw, .ref tp, .ref nw, .ref ac, .ref im, .ref fo, .ref ak, .int 0]))]) (va_runV (As := [.int p0, .int p1, .int p2]) (rest := []) ⟨hx, hb, hml, hown, hts⟩ k_5 (cwV 3 hts gX7_row_X5_lay rfl rfl rfl (by decide +kernel) ⟨Nat.le_of_ble_eq_true rfl, Nat.le_of_ble_eq_true rfl⟩) (wp_V hP hK hD hN [1, 2, 3, 4] (by decide) rfl (ci := 4) rfl rfl) rfl rfl hl.1 rfl (lv_room (Nat.le_of_ble_eq_true rfl)) dX7_row_40 ⟨Nat.le_of_ble_eq_true rfl, Nat.le_of_ble_eq_true rfl⟩) hP hD hS hA [1, 2, 3, 4] [0] rfl rfl (by decide) (by decide) (fun u_5 H locs hw_5 hP hD hS => ?_)
          have hP : va_P D kl [(h, .inr (6, [.ref rw, .ref tp, .ref nw, .ref ac, .ref im, .ref fo, .ref ak, .int 0]))] H := hP
          have hD : va_D A [(h, .inr (6, [.ref rw, .ref tp, .ref nw, .ref ac, .ref im, .ref fo, .ref ak, .int 0]))] := hD
          refine lv_aload_n hx hb dX7_row_43 rfl (lv_at hl 0 rfl) ?_
          refine lv_iload_n hx hb dX7_row_44 rfl (lv_at hl 3 rfl) ?_
          have k_6 := (k_foundNothing l D cI cB cQ H.size h rw tp nw ac im fo ak p2)
          refine wc_i (WC := [(h, .inr (6, [.ref rw, .ref tp, .ref nw, .ref ac, .ref im, .ref fo, .ref ak, .int 0]))]) (WR := []) (va_runV (As := [.int p2]) (rest := []) ⟨hx, hb, hml, hown, hts⟩ k_6 (cwV 1 hts gX7_row_X7_foundNothing rfl rfl rfl (by decide +kernel) ⟨Nat.le_of_ble_eq_true rfl, Nat.le_of_ble_eq_true rfl⟩) (wp_V hP hK hD hN [0] (by decide) rfl (ci := 6) rfl rfl) rfl rfl hl.1 rfl (lv_room (Nat.le_of_ble_eq_true rfl)) dX7_row_45 ⟨Nat.le_of_ble_eq_true rfl, Nat.le_of_ble_eq_true rfl⟩) hP hD hS hA [0] [] rfl rfl (by decide) (by decide) (fun r_6 u_6 H locs hw_6 hP hD hS => ?_)
          have hP : va_P D kl [] H := hP
          have hD : va_D A [] := hD
          rw [hw_6]
          exact wr_i (v := p2) hx hb hr hlocks hS () (by unfold sp_row; (repeat' split) <;> first | rfl | (exfalso; omega)) (hP.sub [] rfl) (hD.sub [] (by decide) rfl) dX7_row_48
        · have f_4 : ¬ 0 ≤ p2.toInt := zi_nle c_4
          refine lv_aload_n hx hb dX7_row_27 rfl (lv_at hl 0 rfl) ?_
          refine lv_iconst (v := 4) hx hb dX7_row_28 (by decide) ?_
          have k_7 := (k_found l D cI cB cQ H.size h rw tp nw ac im fo ak 4)
          refine wc_i (WC := [(h, .inr (6, [.ref rw, .ref tp, .ref nw, .ref ac, .ref im, .ref fo, .ref ak, .int 0]))]) (WR := [(rw, .inr (4, [.ref la, .ref sq, .ref ir])), (la, .inl (cI, 8, .inl (fun _ => (-1)))), (sq, .inl (cI, 8, .inl (fun _ => 0))), (ir, .inl (cI, 320, .inl (fun _ => 0)))]) (va_runV (As := [.int 4]) (rest := []) ⟨hx, hb, hml, hown, hts⟩ k_7 (cwV 1 hts gX7_row_X7_found rfl rfl rfl (by decide +kernel) ⟨Nat.le_of_ble_eq_true rfl, Nat.le_of_ble_eq_true rfl⟩) (wp_V hP hK hD hN [0] (by decide) rfl (ci := 6) rfl rfl) rfl rfl hl.1 rfl (lv_room (Nat.le_of_ble_eq_true rfl)) dX7_row_29 ⟨Nat.le_of_ble_eq_true rfl, Nat.le_of_ble_eq_true rfl⟩) hP hD hS hA [0] [1, 2, 3, 4] rfl rfl (by decide) (by decide) (fun r_7 u_7 H locs hw_7 hP hD hS => ?_)
          have hP : va_P D kl [(rw, .inr (4, [.ref la, .ref sq, .ref ir])), (la, .inl (cI, 8, .inl (fun _ => (-1)))), (sq, .inl (cI, 8, .inl (fun _ => 0))), (ir, .inl (cI, 320, .inl (fun _ => 0)))] H := hP
          have hD : va_D A [(rw, .inr (4, [.ref la, .ref sq, .ref ir])), (la, .inl (cI, 8, .inl (fun _ => (-1)))), (sq, .inl (cI, 8, .inl (fun _ => 0))), (ir, .inl (cI, 320, .inl (fun _ => 0)))] := hD
          obtain rfl : r_7 = (-1000014) := by first | exact hw_7 | exact hw_7.trans (by decide)
          exact wr_i (v := (-1000014)) hx hb hr hlocks hS () (by unfold sp_row; (repeat' split) <;> first | rfl | (exfalso; omega)) (hP.sub [] rfl) (hD.sub [] (by decide) rfl) dX7_row_32
      · have f_3 : ¬ p2.toInt ≤ 40 := zi_nle c_3
        refine lv_ldc (v := (-1000001)) hx hb hown (hts (.constant RX7 68 (-1000001)) (List.mem_of_getElem? (i := 1) rfl)) dX7_row_20 ?_
        exact wr_i (v := (-1000001)) hx hb hr hlocks hS () (by unfold sp_row; (repeat' split) <;> first | rfl | (exfalso; omega)) (hP.sub [] rfl) (hD.sub [] (by decide) rfl) dX7_row_22
    · subst e_2
      have f_2 : ¬ (0 ≤ p1.toInt ∧ p1.toInt ≤ 2) := f_2
      refine lv_if_eq (tgt := 20) hx hb dX7_row_11 (by decide) (fun _ => ?_) (fun c9 => absurd (by decide) c9)
      refine lv_ldc (v := (-1000001)) hx hb hown (hts (.constant RX7 68 (-1000001)) (List.mem_of_getElem? (i := 1) rfl)) dX7_row_20 ?_
      exact wr_i (v := (-1000001)) hx hb hr hlocks hS () (by unfold sp_row; (repeat' split) <;> first | rfl | (exfalso; omega)) (hP.sub [] rfl) (hD.sub [] (by decide) rfl) dX7_row_22
  · subst e_1
    have f_1 : ¬ (0 ≤ p0.toInt ∧ p0.toInt ≤ 7) := f_1
    refine lv_if_eq (tgt := 20) hx hb dX7_row_4 (by decide) (fun _ => ?_) (fun c9 => absurd (by decide) c9)
    refine lv_ldc (v := (-1000001)) hx hb hown (hts (.constant RX7 68 (-1000001)) (List.mem_of_getElem? (i := 1) rfl)) dX7_row_20 ?_
    exact wr_i (v := (-1000001)) hx hb hr hlocks hS () (by unfold sp_row; (repeat' split) <;> first | rfl | (exfalso; omega)) (hP.sub [] rfl) (hD.sub [] (by decide) rfl) dX7_row_22
set_option maxHeartbeats 4000000 in
set_option maxRecDepth 100000 in
theorem kx_set (l : Launch) (D : va_G) (cI cB cQ : ClassId) (sz : Nat) (h : Nat) (rw : Nat) (tp : Nat) (nw : Nat) (ac : Nat) (im : Nat) (fo : Nat) (ak : Nat) (la : Nat) (sq : Nat) (ir : Nat) (p0 : Int32) (p1 : Int32) (p2 : Int32) : mi l yX7_set wsX7_set ({ frames := 2, cells := 0, slots := 0, locals := 44 }) D cI cB cQ [.ref h, .int p0, .int p1, .int p2] sz [(h, .inr (6, [.ref rw, .ref tp, .ref nw, .ref ac, .ref im, .ref fo, .ref ak, .int 0])), (rw, .inr (4, [.ref la, .ref sq, .ref ir])), (la, .inl (cI, 8, .inl (fun _ => (-1))))] (fun (r : Int32) (_u : Unit) => r = sp_set p0 p1 p2) (fun _ => []) 0 0 := by
  refine wm_i (cc := cX7_set) (maxL := 5) (ret := (some .int)) (by decide) rfl (Nat.le_of_ble_eq_true rfl) ?_
  intro p e s m below meth c A ls hx hb hr hml hown hts hlocks hin hP hK hD hN hA hl hS
  have hown : s.vm.findClass RX7 = some m.cls := hown
  have hl : lv_has ls 5 [(0, .ref h), (1, .int p0), (2, .int p1), (3, .int p2)] := hl
  change W p l e ({ frames := 2, cells := 0, slots := 0, locals := 44 }) s m ([.ref h, .int p0, .int p1, .int p2] : List Value).toArray below meth c s.heap [] 0 0 (MQ below (va_Qi (fun (r : Int32) (_u : Unit) => r = sp_set p0 p1 p2) (fun u t => wb D A ((fun _ => []) u) t) A) ([.ref h, .int p0, .int p1, .int p2] : List Value).toArray s 0 0 A) (F0 m 0 ls [])
  refine lv_iload_n hx hb dX7_set_0 rfl (lv_at hl 1 rfl) ?_
  have k_1 := (k_isRow l D cI cB cQ s.heap.size p0)
  refine wc_i (WC := []) (WR := [(h, .inr (6, [.ref rw, .ref tp, .ref nw, .ref ac, .ref im, .ref fo, .ref ak, .int 0])), (rw, .inr (4, [.ref la, .ref sq, .ref ir])), (la, .inl (cI, 8, .inl (fun _ => (-1))))]) (va_runS (As := [.int p0]) (rest := []) ⟨hx, hb, hml, hown, hts⟩ k_1 (va_cwS 1 hts gX7_set_X5_isRow rfl rfl rfl (by decide +kernel) ⟨Nat.le_of_ble_eq_true rfl, Nat.le_of_ble_eq_true rfl⟩) (wp_S hP hK hD hN [] (by decide) rfl) rfl rfl hl.1 rfl (lv_room (Nat.le_of_ble_eq_true rfl)) dX7_set_1 ⟨Nat.le_of_ble_eq_true rfl, Nat.le_of_ble_eq_true rfl⟩) hP hD hS hA [] [0, 1, 2] rfl rfl (by decide) (by decide) (fun r_1 u_1 H locs hw_1 hP hD hS => ?_)
  have hP : va_P D kl [(h, .inr (6, [.ref rw, .ref tp, .ref nw, .ref ac, .ref im, .ref fo, .ref ak, .int 0])), (rw, .inr (4, [.ref la, .ref sq, .ref ir])), (la, .inl (cI, 8, .inl (fun _ => (-1))))] H := hP
  have hD : va_D A [(h, .inr (6, [.ref rw, .ref tp, .ref nw, .ref ac, .ref im, .ref fo, .ref ak, .int 0])), (rw, .inr (4, [.ref la, .ref sq, .ref ir])), (la, .inl (cI, 8, .inl (fun _ => (-1))))] := hD
  rcases hw_1 with ⟨e_1, f_1⟩ | ⟨e_1, f_1⟩
  · subst e_1
    have f_1 : 0 ≤ p0.toInt ∧ p0.toInt ≤ 7 := f_1
    refine lv_if_ne (tgt := 10) hx hb dX7_set_4 (by decide) (fun _ => ?_) (fun c9 => absurd c9 (by decide))
    refine lv_aload_n hx hb dX7_set_10 rfl (lv_at hl 0 rfl) ?_
    refine va_get (D := D) (ci := 6) (v := .ref rw) (C := RX7) (T := TX7) (N := 8) hx hb hts (fun _ h => List.mem_cons_of_mem _ (List.mem_append_left _ (List.mem_append_right _ h))) hown hK hP 0 rfl rfl 0 (by decide) (hts (.fieldLink RX7 10 "WinterWalk" "rows" "LWinterWalk$Rows;") (List.mem_of_getElem? (i := 2) rfl)) (fun _ h9 => h9) rfl dX7_set_11 ?_
    refine lv_iload_n hx hb dX7_set_14 rfl (lv_at hl 1 rfl) ?_
    refine lv_iload_n hx hb dX7_set_15 rfl (lv_at hl 2 rfl) ?_
    refine lv_iconst (v := 1) hx hb dX7_set_16 (by decide) ?_
    have k_2 := (k_troubleWith l D cI cB cQ H.size rw la sq ir p0 p1 1 (by omega))
    refine wc_i (WC := [(rw, .inr (4, [.ref la, .ref sq, .ref ir])), (la, .inl (cI, 8, .inl (fun _ => (-1))))]) (WR := [(h, .inr (6, [.ref rw, .ref tp, .ref nw, .ref ac, .ref im, .ref fo, .ref ak, .int 0]))]) (va_runV (As := [.int p0, .int p1, .int 1]) (rest := []) ⟨hx, hb, hml, hown, hts⟩ k_2 (cwV 3 hts gX7_set_X5_troubleWith rfl rfl rfl (by decide +kernel) ⟨Nat.le_of_ble_eq_true rfl, Nat.le_of_ble_eq_true rfl⟩) (wp_V hP hK hD hN [1, 2] (by decide) rfl (ci := 4) rfl rfl) rfl rfl hl.1 rfl (lv_room (Nat.le_of_ble_eq_true rfl)) dX7_set_17 ⟨Nat.le_of_ble_eq_true rfl, Nat.le_of_ble_eq_true rfl⟩) hP hD hS hA [1, 2] [0] rfl rfl (by decide) (by decide) (fun r_2 u_2 H locs hw_2 hP hD hS => ?_)
    have hP : va_P D kl [(h, .inr (6, [.ref rw, .ref tp, .ref nw, .ref ac, .ref im, .ref fo, .ref ak, .int 0]))] H := hP
    have hD : va_D A [(h, .inr (6, [.ref rw, .ref tp, .ref nw, .ref ac, .ref im, .ref fo, .ref ak, .int 0]))] := hD
    obtain rfl : r_2 = 1 := by first | exact hw_2 | exact hw_2.trans (by decide)
    refine lv_istore (lv' := [(4, .int 1), (0, .ref h), (1, .int p0), (2, .int p1), (3, .int p2)]) hx hb dX7_set_20 hl (by decide) rfl (fun ls hl => ?_)
    refine lv_iload hx hb dX7_set_22 (lv_at hl 0 rfl) ?_
    refine lv_if_eq (tgt := 34) hx hb dX7_set_24 (by decide) (fun c9 => absurd c9 (by decide)) (fun _ => ?_)
    refine lv_aload_n hx hb dX7_set_27 rfl (lv_at hl 1 rfl) ?_
    refine lv_iload hx hb dX7_set_28 (lv_at hl 0 rfl) ?_
    have k_3 := (k_found l D cI cB cQ H.size h rw tp nw ac im fo ak 1)
    refine wc_i (WC := [(h, .inr (6, [.ref rw, .ref tp, .ref nw, .ref ac, .ref im, .ref fo, .ref ak, .int 0]))]) (WR := []) (va_runV (As := [.int 1]) (rest := []) ⟨hx, hb, hml, hown, hts⟩ k_3 (cwV 1 hts gX7_set_X7_found rfl rfl rfl (by decide +kernel) ⟨Nat.le_of_ble_eq_true rfl, Nat.le_of_ble_eq_true rfl⟩) (wp_V hP hK hD hN [0] (by decide) rfl (ci := 6) rfl rfl) rfl rfl hl.1 rfl (lv_room (Nat.le_of_ble_eq_true rfl)) dX7_set_30 ⟨Nat.le_of_ble_eq_true rfl, Nat.le_of_ble_eq_true rfl⟩) hP hD hS hA [0] [] rfl rfl (by decide) (by decide) (fun r_3 u_3 H locs hw_3 hP hD hS => ?_)
    have hP : va_P D kl [] H := hP
    have hD : va_D A [] := hD
    obtain rfl : r_3 = (-1000011) := by first | exact hw_3 | exact hw_3.trans (by decide)
    exact wr_i (v := (-1000011)) hx hb hr hlocks hS () (by unfold sp_set; (repeat' split) <;> first | rfl | (exfalso; omega)) (hP.sub [] rfl) (hD.sub [] (by decide) rfl) dX7_set_33
  · subst e_1
    have f_1 : ¬ (0 ≤ p0.toInt ∧ p0.toInt ≤ 7) := f_1
    refine lv_if_ne (tgt := 10) hx hb dX7_set_4 (by decide) (fun c9 => absurd (by decide) c9) (fun _ => ?_)
    refine lv_ldc (v := (-1000001)) hx hb hown (hts (.constant RX7 68 (-1000001)) (List.mem_of_getElem? (i := 1) rfl)) dX7_set_7 ?_
    exact wr_i (v := (-1000001)) hx hb hr hlocks hS () (by unfold sp_set; (repeat' split) <;> first | rfl | (exfalso; omega)) (hP.sub [] rfl) (hD.sub [] (by decide) rfl) dX7_set_9
set_option maxHeartbeats 4000000 in
set_option maxRecDepth 100000 in
theorem kx_copy (l : Launch) (D : va_G) (cI cB cQ : ClassId) (sz : Nat) (h : Nat) (rw : Nat) (tp : Nat) (nw : Nat) (ac : Nat) (im : Nat) (fo : Nat) (ak : Nat) (la : Nat) (sq : Nat) (ir : Nat) (p0 : Int32) (p1 : Int32) (p2 : Int32) (p3 : Int32) (p4 : Int32) : mi l yX7_copy wsX7_copy ({ frames := 2, cells := 0, slots := 0, locals := 46 }) D cI cB cQ [.ref h, .int p0, .int p1, .int p2, .int p3, .int p4] sz [(h, .inr (6, [.ref rw, .ref tp, .ref nw, .ref ac, .ref im, .ref fo, .ref ak, .int 0])), (rw, .inr (4, [.ref la, .ref sq, .ref ir])), (la, .inl (cI, 8, .inl (fun _ => (-1))))] (fun (r : Int32) (_u : Unit) => r = sp_copy p0 p1 p2 p3 p4) (fun _ => []) 0 0 := by
  refine wm_i (cc := cX7_copy) (maxL := 7) (ret := (some .int)) (by decide) rfl (Nat.le_of_ble_eq_true rfl) ?_
  intro p e s m below meth c A ls hx hb hr hml hown hts hlocks hin hP hK hD hN hA hl hS
  have hown : s.vm.findClass RX7 = some m.cls := hown
  have hl : lv_has ls 7 [(0, .ref h), (1, .int p0), (2, .int p1), (3, .int p2), (4, .int p3), (5, .int p4)] := hl
  change W p l e ({ frames := 2, cells := 0, slots := 0, locals := 46 }) s m ([.ref h, .int p0, .int p1, .int p2, .int p3, .int p4] : List Value).toArray below meth c s.heap [] 0 0 (MQ below (va_Qi (fun (r : Int32) (_u : Unit) => r = sp_copy p0 p1 p2 p3 p4) (fun u t => wb D A ((fun _ => []) u) t) A) ([.ref h, .int p0, .int p1, .int p2, .int p3, .int p4] : List Value).toArray s 0 0 A) (F0 m 0 ls [])
  refine lv_iload_n hx hb dX7_copy_0 rfl (lv_at hl 1 rfl) ?_
  have k_1 := (k_isRow l D cI cB cQ s.heap.size p0)
  refine wc_i (WC := []) (WR := [(h, .inr (6, [.ref rw, .ref tp, .ref nw, .ref ac, .ref im, .ref fo, .ref ak, .int 0])), (rw, .inr (4, [.ref la, .ref sq, .ref ir])), (la, .inl (cI, 8, .inl (fun _ => (-1))))]) (va_runS (As := [.int p0]) (rest := []) ⟨hx, hb, hml, hown, hts⟩ k_1 (va_cwS 1 hts gX7_copy_X5_isRow rfl rfl rfl (by decide +kernel) ⟨Nat.le_of_ble_eq_true rfl, Nat.le_of_ble_eq_true rfl⟩) (wp_S hP hK hD hN [] (by decide) rfl) rfl rfl hl.1 rfl (lv_room (Nat.le_of_ble_eq_true rfl)) dX7_copy_1 ⟨Nat.le_of_ble_eq_true rfl, Nat.le_of_ble_eq_true rfl⟩) hP hD hS hA [] [0, 1, 2] rfl rfl (by decide) (by decide) (fun r_1 u_1 H locs hw_1 hP hD hS => ?_)
  have hP : va_P D kl [(h, .inr (6, [.ref rw, .ref tp, .ref nw, .ref ac, .ref im, .ref fo, .ref ak, .int 0])), (rw, .inr (4, [.ref la, .ref sq, .ref ir])), (la, .inl (cI, 8, .inl (fun _ => (-1))))] H := hP
  have hD : va_D A [(h, .inr (6, [.ref rw, .ref tp, .ref nw, .ref ac, .ref im, .ref fo, .ref ak, .int 0])), (rw, .inr (4, [.ref la, .ref sq, .ref ir])), (la, .inl (cI, 8, .inl (fun _ => (-1))))] := hD
  rcases hw_1 with ⟨e_1, f_1⟩ | ⟨e_1, f_1⟩
  · subst e_1
    have f_1 : 0 ≤ p0.toInt ∧ p0.toInt ≤ 7 := f_1
    refine lv_if_eq (tgt := 14) hx hb dX7_copy_4 (by decide) (fun c9 => absurd c9 (by decide)) (fun _ => ?_)
    refine lv_iload_n hx hb dX7_copy_7 rfl (lv_at hl 3 rfl) ?_
    have k_2 := (k_isRow l D cI cB cQ H.size p2)
    refine wc_i (WC := []) (WR := [(h, .inr (6, [.ref rw, .ref tp, .ref nw, .ref ac, .ref im, .ref fo, .ref ak, .int 0])), (rw, .inr (4, [.ref la, .ref sq, .ref ir])), (la, .inl (cI, 8, .inl (fun _ => (-1))))]) (va_runS (As := [.int p2]) (rest := []) ⟨hx, hb, hml, hown, hts⟩ k_2 (va_cwS 1 hts gX7_copy_X5_isRow rfl rfl rfl (by decide +kernel) ⟨Nat.le_of_ble_eq_true rfl, Nat.le_of_ble_eq_true rfl⟩) (wp_S hP hK hD hN [] (by decide) rfl) rfl rfl hl.1 rfl (lv_room (Nat.le_of_ble_eq_true rfl)) dX7_copy_8 ⟨Nat.le_of_ble_eq_true rfl, Nat.le_of_ble_eq_true rfl⟩) hP hD hS hA [] [0, 1, 2] rfl rfl (by decide) (by decide) (fun r_2 u_2 H locs hw_2 hP hD hS => ?_)
    have hP : va_P D kl [(h, .inr (6, [.ref rw, .ref tp, .ref nw, .ref ac, .ref im, .ref fo, .ref ak, .int 0])), (rw, .inr (4, [.ref la, .ref sq, .ref ir])), (la, .inl (cI, 8, .inl (fun _ => (-1))))] H := hP
    have hD : va_D A [(h, .inr (6, [.ref rw, .ref tp, .ref nw, .ref ac, .ref im, .ref fo, .ref ak, .int 0])), (rw, .inr (4, [.ref la, .ref sq, .ref ir])), (la, .inl (cI, 8, .inl (fun _ => (-1))))] := hD
    rcases hw_2 with ⟨e_2, f_2⟩ | ⟨e_2, f_2⟩
    · subst e_2
      have f_2 : 0 ≤ p2.toInt ∧ p2.toInt ≤ 7 := f_2
      refine lv_if_ne (tgt := 17) hx hb dX7_copy_11 (by decide) (fun _ => ?_) (fun c9 => absurd c9 (by decide))
      refine lv_aload_n hx hb dX7_copy_17 rfl (lv_at hl 0 rfl) ?_
      refine va_get (D := D) (ci := 6) (v := .ref rw) (C := RX7) (T := TX7) (N := 8) hx hb hts (fun _ h => List.mem_cons_of_mem _ (List.mem_append_left _ (List.mem_append_right _ h))) hown hK hP 0 rfl rfl 0 (by decide) (hts (.fieldLink RX7 10 "WinterWalk" "rows" "LWinterWalk$Rows;") (List.mem_of_getElem? (i := 2) rfl)) (fun _ h9 => h9) rfl dX7_copy_18 ?_
      refine lv_iload_n hx hb dX7_copy_21 rfl (lv_at hl 1 rfl) ?_
      refine lv_iload_n hx hb dX7_copy_22 rfl (lv_at hl 2 rfl) ?_
      refine lv_iload_n hx hb dX7_copy_23 rfl (lv_at hl 3 rfl) ?_
      refine lv_iload hx hb dX7_copy_24 (lv_at hl 4 rfl) ?_
      refine lv_iload hx hb dX7_copy_26 (lv_at hl 5 rfl) ?_
      have k_3 := (k_troubleBetween l D cI cB cQ H.size rw la sq ir p0 p1 p2 p3 p4 (by omega))
      refine wc_i (WC := [(rw, .inr (4, [.ref la, .ref sq, .ref ir])), (la, .inl (cI, 8, .inl (fun _ => (-1))))]) (WR := [(h, .inr (6, [.ref rw, .ref tp, .ref nw, .ref ac, .ref im, .ref fo, .ref ak, .int 0]))]) (va_runV (As := [.int p0, .int p1, .int p2, .int p3, .int p4]) (rest := []) ⟨hx, hb, hml, hown, hts⟩ k_3 (cwV 5 hts gX7_copy_X5_troubleBetween rfl rfl rfl (by decide +kernel) ⟨Nat.le_of_ble_eq_true rfl, Nat.le_of_ble_eq_true rfl⟩) (wp_V hP hK hD hN [1, 2] (by decide) rfl (ci := 4) rfl rfl) rfl rfl hl.1 rfl (lv_room (Nat.le_of_ble_eq_true rfl)) dX7_copy_28 ⟨Nat.le_of_ble_eq_true rfl, Nat.le_of_ble_eq_true rfl⟩) hP hD hS hA [1, 2] [0] rfl rfl (by decide) (by decide) (fun r_3 u_3 H locs hw_3 hP hD hS => ?_)
      have hP : va_P D kl [(h, .inr (6, [.ref rw, .ref tp, .ref nw, .ref ac, .ref im, .ref fo, .ref ak, .int 0]))] H := hP
      have hD : va_D A [(h, .inr (6, [.ref rw, .ref tp, .ref nw, .ref ac, .ref im, .ref fo, .ref ak, .int 0]))] := hD
      obtain rfl : r_3 = 1 := by first | exact hw_3 | exact hw_3.trans (by decide)
      refine lv_istore (lv' := [(6, .int 1), (0, .ref h), (1, .int p0), (2, .int p1), (3, .int p2), (4, .int p3), (5, .int p4)]) hx hb dX7_copy_31 hl (by decide) rfl (fun ls hl => ?_)
      refine lv_iload hx hb dX7_copy_33 (lv_at hl 0 rfl) ?_
      refine lv_if_eq (tgt := 45) hx hb dX7_copy_35 (by decide) (fun c9 => absurd c9 (by decide)) (fun _ => ?_)
      refine lv_aload_n hx hb dX7_copy_38 rfl (lv_at hl 1 rfl) ?_
      refine lv_iload hx hb dX7_copy_39 (lv_at hl 0 rfl) ?_
      have k_4 := (k_found l D cI cB cQ H.size h rw tp nw ac im fo ak 1)
      refine wc_i (WC := [(h, .inr (6, [.ref rw, .ref tp, .ref nw, .ref ac, .ref im, .ref fo, .ref ak, .int 0]))]) (WR := []) (va_runV (As := [.int 1]) (rest := []) ⟨hx, hb, hml, hown, hts⟩ k_4 (cwV 1 hts gX7_copy_X7_found rfl rfl rfl (by decide +kernel) ⟨Nat.le_of_ble_eq_true rfl, Nat.le_of_ble_eq_true rfl⟩) (wp_V hP hK hD hN [0] (by decide) rfl (ci := 6) rfl rfl) rfl rfl hl.1 rfl (lv_room (Nat.le_of_ble_eq_true rfl)) dX7_copy_41 ⟨Nat.le_of_ble_eq_true rfl, Nat.le_of_ble_eq_true rfl⟩) hP hD hS hA [0] [] rfl rfl (by decide) (by decide) (fun r_4 u_4 H locs hw_4 hP hD hS => ?_)
      have hP : va_P D kl [] H := hP
      have hD : va_D A [] := hD
      obtain rfl : r_4 = (-1000011) := by first | exact hw_4 | exact hw_4.trans (by decide)
      exact wr_i (v := (-1000011)) hx hb hr hlocks hS () (by unfold sp_copy; (repeat' split) <;> first | rfl | (exfalso; omega)) (hP.sub [] rfl) (hD.sub [] (by decide) rfl) dX7_copy_44
    · subst e_2
      have f_2 : ¬ (0 ≤ p2.toInt ∧ p2.toInt ≤ 7) := f_2
      refine lv_if_ne (tgt := 17) hx hb dX7_copy_11 (by decide) (fun c9 => absurd (by decide) c9) (fun _ => ?_)
      refine lv_ldc (v := (-1000001)) hx hb hown (hts (.constant RX7 68 (-1000001)) (List.mem_of_getElem? (i := 1) rfl)) dX7_copy_14 ?_
      exact wr_i (v := (-1000001)) hx hb hr hlocks hS () (by unfold sp_copy; (repeat' split) <;> first | rfl | (exfalso; omega)) (hP.sub [] rfl) (hD.sub [] (by decide) rfl) dX7_copy_16
  · subst e_1
    have f_1 : ¬ (0 ≤ p0.toInt ∧ p0.toInt ≤ 7) := f_1
    refine lv_if_eq (tgt := 14) hx hb dX7_copy_4 (by decide) (fun _ => ?_) (fun c9 => absurd (by decide) c9)
    refine lv_ldc (v := (-1000001)) hx hb hown (hts (.constant RX7 68 (-1000001)) (List.mem_of_getElem? (i := 1) rfl)) dX7_copy_14 ?_
    exact wr_i (v := (-1000001)) hx hb hr hlocks hS () (by unfold sp_copy; (repeat' split) <;> first | rfl | (exfalso; omega)) (hP.sub [] rfl) (hD.sub [] (by decide) rfl) dX7_copy_16
set_option maxHeartbeats 4000000 in
set_option maxRecDepth 100000 in
theorem kx_drop (l : Launch) (D : va_G) (cI cB cQ : ClassId) (sz : Nat) (h : Nat) (rw : Nat) (tp : Nat) (nw : Nat) (ac : Nat) (im : Nat) (fo : Nat) (ak : Nat) (la : Nat) (sq : Nat) (ir : Nat) (p0 : Int32) : mi l yX7_drop wsX7_drop ({ frames := 2, cells := 0, slots := 0, locals := 42 }) D cI cB cQ [.ref h, .int p0] sz [(h, .inr (6, [.ref rw, .ref tp, .ref nw, .ref ac, .ref im, .ref fo, .ref ak, .int 0])), (rw, .inr (4, [.ref la, .ref sq, .ref ir])), (la, .inl (cI, 8, .inl (fun _ => (-1))))] (fun (r : Int32) (_u : Unit) => r = sp_drop p0) (fun _ => []) 0 0 := by
  refine wm_i (cc := cX7_drop) (maxL := 2) (ret := (some .int)) (by decide) rfl (Nat.le_of_ble_eq_true rfl) ?_
  intro p e s m below meth c A ls hx hb hr hml hown hts hlocks hin hP hK hD hN hA hl hS
  have hown : s.vm.findClass RX7 = some m.cls := hown
  have hl : lv_has ls 2 [(0, .ref h), (1, .int p0)] := hl
  change W p l e ({ frames := 2, cells := 0, slots := 0, locals := 42 }) s m ([.ref h, .int p0] : List Value).toArray below meth c s.heap [] 0 0 (MQ below (va_Qi (fun (r : Int32) (_u : Unit) => r = sp_drop p0) (fun u t => wb D A ((fun _ => []) u) t) A) ([.ref h, .int p0] : List Value).toArray s 0 0 A) (F0 m 0 ls [])
  refine lv_iload_n hx hb dX7_drop_0 rfl (lv_at hl 1 rfl) ?_
  have k_1 := (k_isRow l D cI cB cQ s.heap.size p0)
  refine wc_i (WC := []) (WR := [(h, .inr (6, [.ref rw, .ref tp, .ref nw, .ref ac, .ref im, .ref fo, .ref ak, .int 0])), (rw, .inr (4, [.ref la, .ref sq, .ref ir])), (la, .inl (cI, 8, .inl (fun _ => (-1))))]) (va_runS (As := [.int p0]) (rest := []) ⟨hx, hb, hml, hown, hts⟩ k_1 (va_cwS 1 hts gX7_drop_X5_isRow rfl rfl rfl (by decide +kernel) ⟨Nat.le_of_ble_eq_true rfl, Nat.le_of_ble_eq_true rfl⟩) (wp_S hP hK hD hN [] (by decide) rfl) rfl rfl hl.1 rfl (lv_room (Nat.le_of_ble_eq_true rfl)) dX7_drop_1 ⟨Nat.le_of_ble_eq_true rfl, Nat.le_of_ble_eq_true rfl⟩) hP hD hS hA [] [0, 1, 2] rfl rfl (by decide) (by decide) (fun r_1 u_1 H locs hw_1 hP hD hS => ?_)
  have hP : va_P D kl [(h, .inr (6, [.ref rw, .ref tp, .ref nw, .ref ac, .ref im, .ref fo, .ref ak, .int 0])), (rw, .inr (4, [.ref la, .ref sq, .ref ir])), (la, .inl (cI, 8, .inl (fun _ => (-1))))] H := hP
  have hD : va_D A [(h, .inr (6, [.ref rw, .ref tp, .ref nw, .ref ac, .ref im, .ref fo, .ref ak, .int 0])), (rw, .inr (4, [.ref la, .ref sq, .ref ir])), (la, .inl (cI, 8, .inl (fun _ => (-1))))] := hD
  rcases hw_1 with ⟨e_1, f_1⟩ | ⟨e_1, f_1⟩
  · subst e_1
    have f_1 : 0 ≤ p0.toInt ∧ p0.toInt ≤ 7 := f_1
    refine lv_if_ne (tgt := 10) hx hb dX7_drop_4 (by decide) (fun _ => ?_) (fun c9 => absurd c9 (by decide))
    refine lv_aload_n hx hb dX7_drop_10 rfl (lv_at hl 0 rfl) ?_
    refine va_get (D := D) (ci := 6) (v := .ref rw) (C := RX7) (T := TX7) (N := 8) hx hb hts (fun _ h => List.mem_cons_of_mem _ (List.mem_append_left _ (List.mem_append_right _ h))) hown hK hP 0 rfl rfl 0 (by decide) (hts (.fieldLink RX7 10 "WinterWalk" "rows" "LWinterWalk$Rows;") (List.mem_of_getElem? (i := 2) rfl)) (fun _ h9 => h9) rfl dX7_drop_11 ?_
    refine lv_iload_n hx hb dX7_drop_14 rfl (lv_at hl 1 rfl) ?_
    have k_2 := (k_isMissing l D cI cB cQ H.size rw la sq ir p0 (by omega))
    refine wc_i (WC := [(rw, .inr (4, [.ref la, .ref sq, .ref ir])), (la, .inl (cI, 8, .inl (fun _ => (-1))))]) (WR := [(h, .inr (6, [.ref rw, .ref tp, .ref nw, .ref ac, .ref im, .ref fo, .ref ak, .int 0]))]) (va_runV (As := [.int p0]) (rest := []) ⟨hx, hb, hml, hown, hts⟩ k_2 (cwV 1 hts gX7_drop_X5_isMissing rfl rfl rfl (by decide +kernel) ⟨Nat.le_of_ble_eq_true rfl, Nat.le_of_ble_eq_true rfl⟩) (wp_V hP hK hD hN [1, 2] (by decide) rfl (ci := 4) rfl rfl) rfl rfl hl.1 rfl (lv_room (Nat.le_of_ble_eq_true rfl)) dX7_drop_15 ⟨Nat.le_of_ble_eq_true rfl, Nat.le_of_ble_eq_true rfl⟩) hP hD hS hA [1, 2] [0] rfl rfl (by decide) (by decide) (fun r_2 u_2 H locs hw_2 hP hD hS => ?_)
    have hP : va_P D kl [(h, .inr (6, [.ref rw, .ref tp, .ref nw, .ref ac, .ref im, .ref fo, .ref ak, .int 0])), (rw, .inr (4, [.ref la, .ref sq, .ref ir])), (la, .inl (cI, 8, .inl (fun _ => (-1))))] H := hP
    have hD : va_D A [(h, .inr (6, [.ref rw, .ref tp, .ref nw, .ref ac, .ref im, .ref fo, .ref ak, .int 0])), (rw, .inr (4, [.ref la, .ref sq, .ref ir])), (la, .inl (cI, 8, .inl (fun _ => (-1))))] := hD
    obtain rfl : r_2 = 1 := by first | exact hw_2 | exact hw_2.trans (by decide)
    refine lv_if_eq (tgt := 27) hx hb dX7_drop_18 (by decide) (fun c9 => absurd c9 (by decide)) (fun _ => ?_)
    refine lv_aload_n hx hb dX7_drop_21 rfl (lv_at hl 0 rfl) ?_
    refine lv_iconst (v := 1) hx hb dX7_drop_22 (by decide) ?_
    have k_3 := (k_found l D cI cB cQ H.size h rw tp nw ac im fo ak 1)
    refine wc_i (WC := [(h, .inr (6, [.ref rw, .ref tp, .ref nw, .ref ac, .ref im, .ref fo, .ref ak, .int 0]))]) (WR := [(rw, .inr (4, [.ref la, .ref sq, .ref ir])), (la, .inl (cI, 8, .inl (fun _ => (-1))))]) (va_runV (As := [.int 1]) (rest := []) ⟨hx, hb, hml, hown, hts⟩ k_3 (cwV 1 hts gX7_drop_X7_found rfl rfl rfl (by decide +kernel) ⟨Nat.le_of_ble_eq_true rfl, Nat.le_of_ble_eq_true rfl⟩) (wp_V hP hK hD hN [0] (by decide) rfl (ci := 6) rfl rfl) rfl rfl hl.1 rfl (lv_room (Nat.le_of_ble_eq_true rfl)) dX7_drop_23 ⟨Nat.le_of_ble_eq_true rfl, Nat.le_of_ble_eq_true rfl⟩) hP hD hS hA [0] [1, 2] rfl rfl (by decide) (by decide) (fun r_3 u_3 H locs hw_3 hP hD hS => ?_)
    have hP : va_P D kl [(rw, .inr (4, [.ref la, .ref sq, .ref ir])), (la, .inl (cI, 8, .inl (fun _ => (-1))))] H := hP
    have hD : va_D A [(rw, .inr (4, [.ref la, .ref sq, .ref ir])), (la, .inl (cI, 8, .inl (fun _ => (-1))))] := hD
    obtain rfl : r_3 = (-1000011) := by first | exact hw_3 | exact hw_3.trans (by decide)
    exact wr_i (v := (-1000011)) hx hb hr hlocks hS () (by unfold sp_drop; (repeat' split) <;> first | rfl | (exfalso; omega)) (hP.sub [] rfl) (hD.sub [] (by decide) rfl) dX7_drop_26
  · subst e_1
    have f_1 : ¬ (0 ≤ p0.toInt ∧ p0.toInt ≤ 7) := f_1
    refine lv_if_ne (tgt := 10) hx hb dX7_drop_4 (by decide) (fun c9 => absurd (by decide) c9) (fun _ => ?_)
    refine lv_ldc (v := (-1000001)) hx hb hown (hts (.constant RX7 68 (-1000001)) (List.mem_of_getElem? (i := 1) rfl)) dX7_drop_7 ?_
    exact wr_i (v := (-1000001)) hx hb hr hlocks hS () (by unfold sp_drop; (repeat' split) <;> first | rfl | (exfalso; omega)) (hP.sub [] rfl) (hD.sub [] (by decide) rfl) dX7_drop_9
set_option maxHeartbeats 4000000 in
set_option maxRecDepth 100000 in
theorem kx_feed (l : Launch) (D : va_G) (cI cB cQ : ClassId) (sz : Nat) (h : Nat) (rw : Nat) (tp : Nat) (nw : Nat) (ac : Nat) (im : Nat) (fo : Nat) (ak : Nat) (tb : Nat) (dr : Nat) (p0 : Int32) : mi l yX7_feed wsX7_feed ({ frames := 1, cells := 0, slots := 0, locals := 21 }) D cI cB cQ [.ref h, .int p0] sz [(h, .inr (6, [.ref rw, .ref tp, .ref nw, .ref ac, .ref im, .ref fo, .ref ak, .int 0])), (tp, .inr (5, [.ref tb, .ref dr, .int 0, .int 0, .int 0, .int 0, .int 0])), (tb, .inl (cI, 120, .inl (fun _ => 0)))] (fun (r : Int32) (_u : Unit) => r = sp_feed p0) (fun _ => []) 0 0 := by
  refine wm_i (cc := cX7_feed) (maxL := 2) (ret := (some .int)) (by decide) rfl (Nat.le_of_ble_eq_true rfl) ?_
  intro p e s m below meth c A ls hx hb hr hml hown hts hlocks hin hP hK hD hN hA hl hS
  have hown : s.vm.findClass RX7 = some m.cls := hown
  have hl : lv_has ls 2 [(0, .ref h), (1, .int p0)] := hl
  change W p l e ({ frames := 1, cells := 0, slots := 0, locals := 21 }) s m ([.ref h, .int p0] : List Value).toArray below meth c s.heap [] 0 0 (MQ below (va_Qi (fun (r : Int32) (_u : Unit) => r = sp_feed p0) (fun u t => wb D A ((fun _ => []) u) t) A) ([.ref h, .int p0] : List Value).toArray s 0 0 A) (F0 m 0 ls [])
  refine lv_iload_n hx hb dX7_feed_0 rfl (lv_at hl 1 rfl) ?_
  refine lv_if_lt (tgt := 11) hx hb dX7_feed_1 (by decide) (fun c_1 => ?_) (fun c_1 => ?_)
  · have f_1 : p0.toInt < 0 := zi_lt c_1
    refine lv_ldc (v := (-1000001)) hx hb hown (hts (.constant RX7 68 (-1000001)) (List.mem_of_getElem? (i := 1) rfl)) dX7_feed_11 ?_
    exact wr_i (v := (-1000001)) hx hb hr hlocks hS () (by unfold sp_feed; (repeat' split) <;> first | rfl | (exfalso; omega)) (hP.sub [] rfl) (hD.sub [] (by decide) rfl) dX7_feed_13
  · have f_1 : ¬ p0.toInt < 0 := zi_nlt c_1
    refine lv_iload_n hx hb dX7_feed_4 rfl (lv_at hl 1 rfl) ?_
    refine lv_sipush (v := 255) hx hb dX7_feed_5 (by decide) ?_
    refine lv_icmp_le (tgt := 14) hx hb dX7_feed_8 (by decide) (fun c_2 => ?_) (fun c_2 => ?_)
    · have f_2 : p0.toInt ≤ 255 := zi_le c_2
      refine lv_aload_n hx hb dX7_feed_14 rfl (lv_at hl 0 rfl) ?_
      refine va_get (D := D) (ci := 6) (v := .ref tp) (C := RX7) (T := TX7) (N := 8) hx hb hts (fun _ h => List.mem_cons_of_mem _ (List.mem_append_left _ (List.mem_append_right _ h))) hown hK hP 0 rfl rfl 1 (by decide) (hts (.fieldLink RX7 19 "WinterWalk" "tape" "LWinterWalk$Tape;") (List.mem_of_getElem? (i := 2) rfl)) (fun _ h9 => h9) rfl dX7_feed_15 ?_
      have k_3 := (k_isFull_00 l D cI cB cQ s.heap.size tp tb dr)
      refine wc_i (WC := [(tp, .inr (5, [.ref tb, .ref dr, .int 0, .int 0, .int 0, .int 0, .int 0]))]) (WR := [(h, .inr (6, [.ref rw, .ref tp, .ref nw, .ref ac, .ref im, .ref fo, .ref ak, .int 0])), (tb, .inl (cI, 120, .inl (fun _ => 0)))]) (va_runV (As := []) (rest := []) ⟨hx, hb, hml, hown, hts⟩ k_3 (cwV 0 hts gX7_feed_X6_isFull rfl rfl rfl (by decide +kernel) ⟨Nat.le_of_ble_eq_true rfl, Nat.le_of_ble_eq_true rfl⟩) (wp_V hP hK hD hN [1] (by decide) rfl (ci := 5) rfl rfl) rfl rfl hl.1 rfl (lv_room (Nat.le_of_ble_eq_true rfl)) dX7_feed_18 ⟨Nat.le_of_ble_eq_true rfl, Nat.le_of_ble_eq_true rfl⟩) hP hD hS hA [1] [0, 2] rfl rfl (by decide) (by decide) (fun r_3 u_3 H locs hw_3 hP hD hS => ?_)
      have hP : va_P D kl [(h, .inr (6, [.ref rw, .ref tp, .ref nw, .ref ac, .ref im, .ref fo, .ref ak, .int 0])), (tb, .inl (cI, 120, .inl (fun _ => 0))), (tp, .inr (5, [.ref tb, .ref dr, .int 0, .int 0, .int 0, .int 0, .int 0]))] H := hP
      have hD : va_D A [(h, .inr (6, [.ref rw, .ref tp, .ref nw, .ref ac, .ref im, .ref fo, .ref ak, .int 0])), (tb, .inl (cI, 120, .inl (fun _ => 0))), (tp, .inr (5, [.ref tb, .ref dr, .int 0, .int 0, .int 0, .int 0, .int 0]))] := hD
      obtain rfl : r_3 = 0 := by first | exact hw_3 | exact hw_3.trans (by decide)
      refine lv_if_eq (tgt := 27) hx hb dX7_feed_21 (by decide) (fun _ => ?_) (fun c9 => absurd (by decide) c9)
      refine lv_aload_n hx hb dX7_feed_27 rfl (lv_at hl 0 rfl) ?_
      refine va_get (D := D) (ci := 6) (v := .ref tp) (C := RX7) (T := TX7) (N := 8) hx hb hts (fun _ h => List.mem_cons_of_mem _ (List.mem_append_left _ (List.mem_append_right _ h))) hown hK hP 0 rfl rfl 1 (by decide) (hts (.fieldLink RX7 19 "WinterWalk" "tape" "LWinterWalk$Tape;") (List.mem_of_getElem? (i := 2) rfl)) (fun _ h9 => h9) rfl dX7_feed_28 ?_
      refine lv_iload_n hx hb dX7_feed_31 rfl (lv_at hl 1 rfl) ?_
      have k_4 := (k_append l D cI cB cQ H.size tp tb dr p0)
      refine wc_i (WC := [(tp, .inr (5, [.ref tb, .ref dr, .int 0, .int 0, .int 0, .int 0, .int 0])), (tb, .inl (cI, 120, .inl (fun _ => 0)))]) (WR := [(h, .inr (6, [.ref rw, .ref tp, .ref nw, .ref ac, .ref im, .ref fo, .ref ak, .int 0]))]) (va_runV (As := [.int p0]) (rest := []) ⟨hx, hb, hml, hown, hts⟩ k_4 (cwV 1 hts gX7_feed_X6_append rfl rfl rfl (by decide +kernel) ⟨Nat.le_of_ble_eq_true rfl, Nat.le_of_ble_eq_true rfl⟩) (wp_V hP hK hD hN [2, 1] (by decide) rfl (ci := 5) rfl rfl) rfl rfl hl.1 rfl (lv_room (Nat.le_of_ble_eq_true rfl)) dX7_feed_32 ⟨Nat.le_of_ble_eq_true rfl, Nat.le_of_ble_eq_true rfl⟩) hP hD hS hA [2, 1] [0] rfl rfl (by decide) (by decide) (fun r_4 u_4 H locs hw_4 hP hD hS => ?_)
      have hP : va_P D kl [(h, .inr (6, [.ref rw, .ref tp, .ref nw, .ref ac, .ref im, .ref fo, .ref ak, .int 0]))] H := hP
      have hD : va_D A [(h, .inr (6, [.ref rw, .ref tp, .ref nw, .ref ac, .ref im, .ref fo, .ref ak, .int 0]))] := hD
      obtain rfl : r_4 = 1 := by first | exact hw_4 | exact hw_4.trans (by decide)
      exact wr_i (v := 1) hx hb hr hlocks hS () (by unfold sp_feed; (repeat' split) <;> first | rfl | (exfalso; omega)) (hP.sub [] rfl) (hD.sub [] (by decide) rfl) dX7_feed_35
    · have f_2 : ¬ p0.toInt ≤ 255 := zi_nle c_2
      refine lv_ldc (v := (-1000001)) hx hb hown (hts (.constant RX7 68 (-1000001)) (List.mem_of_getElem? (i := 1) rfl)) dX7_feed_11 ?_
      exact wr_i (v := (-1000001)) hx hb hr hlocks hS () (by unfold sp_feed; (repeat' split) <;> first | rfl | (exfalso; omega)) (hP.sub [] rfl) (hD.sub [] (by decide) rfl) dX7_feed_13
set_option maxHeartbeats 4000000 in
set_option maxRecDepth 100000 in
theorem kx_land (l : Launch) (D : va_G) (cI cB cQ : ClassId) (sz : Nat) (h : Nat) (rw : Nat) (tp : Nat) (nw : Nat) (ac : Nat) (im : Nat) (fo : Nat) (ak : Nat) (tb : Nat) (dr : Nat) (w0 : Nat) (w1 : Nat) (w2 : Nat) (w3 : Nat) (w4 : Nat) (w5 : Nat) (w6 : Nat) (w7 : Nat) : mi l yX7_land wsX7_land ({ frames := 5, cells := 0, slots := 0, locals := 103 }) D cI cB cQ [.ref h] sz [(h, .inr (6, [.ref rw, .ref tp, .ref nw, .ref ac, .ref im, .ref fo, .ref ak, .int 0])), (tp, .inr (5, [.ref tb, .ref dr, .int 0, .int 0, .int 0, .int 0, .int 0])), (dr, .inr (3, [.int 0, .int 0, .int 0, .int 0, .int 0, .int 0, .int 0, .int 0, .ref w0, .ref w1, .ref w2, .ref w3, .ref w4, .ref w5, .ref w6, .ref w7])), (w2, .inl (cI, 8, .inl (fun _ => 0))), (w3, .inl (cI, 8, .inl (fun _ => 0))), (w4, .inl (cI, 8, .inl (fun _ => 0)))] (fun (r : Int32) (_u : Unit) => r = (-1000100)) (fun _ => []) 0 0 := by
  refine wm_i (cc := cX7_land) (maxL := 1) (ret := (some .int)) (by decide) rfl (Nat.le_of_ble_eq_true rfl) ?_
  intro p e s m below meth c A ls hx hb hr hml hown hts hlocks hin hP hK hD hN hA hl hS
  have hown : s.vm.findClass RX7 = some m.cls := hown
  have hl : lv_has ls 1 [(0, .ref h)] := hl
  change W p l e ({ frames := 5, cells := 0, slots := 0, locals := 103 }) s m ([.ref h] : List Value).toArray below meth c s.heap [] 0 0 (MQ below (va_Qi (fun (r : Int32) (_u : Unit) => r = (-1000100)) (fun u t => wb D A ((fun _ => []) u) t) A) ([.ref h] : List Value).toArray s 0 0 A) (F0 m 0 ls [])
  refine lv_aload_n hx hb dX7_land_0 rfl (lv_at hl 0 rfl) ?_
  refine va_get (D := D) (ci := 6) (v := .ref tp) (C := RX7) (T := TX7) (N := 8) hx hb hts (fun _ h => List.mem_cons_of_mem _ (List.mem_append_left _ (List.mem_append_left _ (List.mem_append_left _ (List.mem_append_right _ h))))) hown hK hP 0 rfl rfl 1 (by decide) (hts (.fieldLink RX7 19 "WinterWalk" "tape" "LWinterWalk$Tape;") (List.mem_of_getElem? (i := 1) rfl)) (fun _ h9 => h9) rfl dX7_land_1 ?_
  refine lv_aload_n hx hb dX7_land_4 rfl (lv_at hl 0 rfl) ?_
  refine va_get (D := D) (ci := 6) (v := .ref nw) (C := RX7) (T := TX7) (N := 8) hx hb hts (fun _ h => List.mem_cons_of_mem _ (List.mem_append_left _ (List.mem_append_left _ (List.mem_append_left _ (List.mem_append_right _ h))))) hown hK hP 0 rfl rfl 2 (by decide) (hts (.fieldLink RX7 26 "WinterWalk" "now" "LWinterWalk$Land;") (List.mem_of_getElem? (i := 2) rfl)) (fun _ h9 => h9) rfl dX7_land_5 ?_
  have k_1 := (k_readInto_00 l D cI cB cQ s.heap.size tp tb dr w0 w1 w2 w3 w4 w5 w6 w7 nw)
  refine wc_i (WC := [(tp, .inr (5, [.ref tb, .ref dr, .int 0, .int 0, .int 0, .int 0, .int 0])), (dr, .inr (3, [.int 0, .int 0, .int 0, .int 0, .int 0, .int 0, .int 0, .int 0, .ref w0, .ref w1, .ref w2, .ref w3, .ref w4, .ref w5, .ref w6, .ref w7])), (w2, .inl (cI, 8, .inl (fun _ => 0))), (w3, .inl (cI, 8, .inl (fun _ => 0))), (w4, .inl (cI, 8, .inl (fun _ => 0)))]) (WR := [(h, .inr (6, [.ref rw, .ref tp, .ref nw, .ref ac, .ref im, .ref fo, .ref ak, .int 0]))]) (va_runV (As := [.ref nw]) (rest := []) ⟨hx, hb, hml, hown, hts⟩ k_1 (cwV 1 hts gX7_land_X6_readInto rfl rfl rfl (by decide +kernel) ⟨Nat.le_of_ble_eq_true rfl, Nat.le_of_ble_eq_true rfl⟩) (wp_V hP hK hD hN [1, 2, 3, 4, 5] (by decide) rfl (ci := 5) rfl rfl) rfl rfl hl.1 rfl (lv_room (Nat.le_of_ble_eq_true rfl)) dX7_land_8 ⟨Nat.le_of_ble_eq_true rfl, Nat.le_of_ble_eq_true rfl⟩) hP hD hS hA [1, 2, 3, 4, 5] [0] rfl rfl (by decide) (by decide) (fun r_1 u_1 H locs hw_1 hP hD hS => ?_)
  have hP : va_P D kl [(h, .inr (6, [.ref rw, .ref tp, .ref nw, .ref ac, .ref im, .ref fo, .ref ak, .int 0])), (tp, .inr (5, [.ref tb, .ref dr, .int 0, .int 1, .int 0, .int 0, .int 1]))] H := hP
  have hD : va_D A [(h, .inr (6, [.ref rw, .ref tp, .ref nw, .ref ac, .ref im, .ref fo, .ref ak, .int 0])), (tp, .inr (5, [.ref tb, .ref dr, .int 0, .int 1, .int 0, .int 0, .int 1]))] := hD
  obtain rfl : r_1 = 0 := by first | exact hw_1 | exact hw_1.trans (by decide)
  refine lv_if_ne (tgt := 25) hx hb dX7_land_11 (by decide) (fun c9 => absurd (by decide) c9) (fun _ => ?_)
  refine lv_ldc (v := (-1000100)) hx hb hown (hts (.constant RX7 113 (-1000100)) (List.mem_of_getElem? (i := 3) rfl)) dX7_land_14 ?_
  refine lv_aload_n hx hb dX7_land_16 rfl (lv_at hl 0 rfl) ?_
  refine va_get (D := D) (ci := 6) (v := .ref tp) (C := RX7) (T := TX7) (N := 8) hx hb hts (fun _ h => List.mem_cons_of_mem _ (List.mem_append_left _ (List.mem_append_left _ (List.mem_append_left _ (List.mem_append_right _ h))))) hown hK hP 0 rfl rfl 1 (by decide) (hts (.fieldLink RX7 19 "WinterWalk" "tape" "LWinterWalk$Tape;") (List.mem_of_getElem? (i := 1) rfl)) (fun _ h9 => h9) rfl dX7_land_17 ?_
  refine va_get (D := D) (ci := 5) (v := .int 0) (C := RX6) (T := TX6) (N := 7) hx hb hts (fun _ h => List.mem_cons_of_mem _ (List.mem_append_left _ (List.mem_append_left _ (List.mem_append_right _ h)))) hown hK hP 1 rfl rfl 4 (by decide) (hts (.fieldLink RX7 114 "WinterWalk$Tape" "faultPlace" "I") (List.mem_of_getElem? (i := 4) rfl)) (fun _ h9 => h9) rfl dX7_land_20 ?_
  refine lv_isub hx hb dX7_land_23 ?_
  refine lv_topi (fun x_2 ex_2 => ?_)
  obtain rfl : x_2 = (-1000100) := ex_2.trans (by decide)
  exact wr_i (v := (-1000100)) hx hb hr hlocks hS () (by rfl) (hP.sub [] rfl) (hD.sub [] (by decide) rfl) dX7_land_24
set_option maxHeartbeats 4000000 in
set_option maxRecDepth 100000 in
theorem kx_fault (l : Launch) (D : va_G) (cI cB cQ : ClassId) (sz : Nat) (h : Nat) (rw : Nat) (tp : Nat) (nw : Nat) (ac : Nat) (im : Nat) (fo : Nat) (ak : Nat) (tb : Nat) (dr : Nat) : mi l yX7_fault wsX7_fault ({ frames := 0, cells := 0, slots := 0, locals := 0 }) D cI cB cQ [.ref h] sz [(h, .inr (6, [.ref rw, .ref tp, .ref nw, .ref ac, .ref im, .ref fo, .ref ak, .int 0])), (tp, .inr (5, [.ref tb, .ref dr, .int 0, .int 0, .int 0, .int 0, .int 0]))] (fun (r : Int32) (_u : Unit) => r = 0) (fun _ => []) 0 0 := by
  refine wm_i (cc := cX7_fault) (maxL := 1) (ret := (some .int)) (by decide) rfl (Nat.le_of_ble_eq_true rfl) ?_
  intro p e s m below meth c A ls hx hb hr hml hown hts hlocks hin hP hK hD hN hA hl hS
  have hown : s.vm.findClass RX7 = some m.cls := hown
  have hl : lv_has ls 1 [(0, .ref h)] := hl
  change W p l e ({ frames := 0, cells := 0, slots := 0, locals := 0 }) s m ([.ref h] : List Value).toArray below meth c s.heap [] 0 0 (MQ below (va_Qi (fun (r : Int32) (_u : Unit) => r = 0) (fun u t => wb D A ((fun _ => []) u) t) A) ([.ref h] : List Value).toArray s 0 0 A) (F0 m 0 ls [])
  refine lv_aload_n hx hb dX7_fault_0 rfl (lv_at hl 0 rfl) ?_
  refine va_get (D := D) (ci := 6) (v := .ref tp) (C := RX7) (T := TX7) (N := 8) hx hb hts (fun _ h => List.mem_cons_of_mem _ (List.mem_append_left _ (List.mem_append_right _ h))) hown hK hP 0 rfl rfl 1 (by decide) (hts (.fieldLink RX7 19 "WinterWalk" "tape" "LWinterWalk$Tape;") (List.mem_of_getElem? (i := 1) rfl)) (fun _ h9 => h9) rfl dX7_fault_1 ?_
  refine va_get (D := D) (ci := 5) (v := .int 0) (C := RX6) (T := TX6) (N := 7) hx hb hts (fun _ h => List.mem_cons_of_mem _ (List.mem_append_right _ h)) hown hK hP 1 rfl rfl 3 (by decide) (hts (.fieldLink RX7 123 "WinterWalk$Tape" "latestFault" "I") (List.mem_of_getElem? (i := 2) rfl)) (fun _ h9 => h9) rfl dX7_fault_4 ?_
  exact wr_i (v := 0) hx hb hr hlocks hS () (by rfl) (hP.sub [] rfl) (hD.sub [] (by decide) rfl) dX7_fault_7
set_option maxHeartbeats 4000000 in
set_option maxRecDepth 100000 in
theorem kx_undo (l : Launch) (D : va_G) (cI cB cQ : ClassId) (sz : Nat) (h : Nat) (rw : Nat) (tp : Nat) (nw : Nat) (ac : Nat) (im : Nat) (fo : Nat) (ak : Nat) (rg : Nat) : mi l yX7_undo wsX7_undo ({ frames := 0, cells := 0, slots := 0, locals := 0 }) D cI cB cQ [.ref h] sz [(h, .inr (6, [.ref rw, .ref tp, .ref nw, .ref ac, .ref im, .ref fo, .ref ak, .int 0])), (ac, .inr (0, [.ref rg, .int 0, .int 0]))] (fun (r : Int32) (_u : Unit) => r = (-1000002)) (fun _ => []) 0 0 := by
  refine wm_i (cc := cX7_undo) (maxL := 1) (ret := (some .int)) (by decide) rfl (Nat.le_of_ble_eq_true rfl) ?_
  intro p e s m below meth c A ls hx hb hr hml hown hts hlocks hin hP hK hD hN hA hl hS
  have hown : s.vm.findClass RX7 = some m.cls := hown
  have hl : lv_has ls 1 [(0, .ref h)] := hl
  change W p l e ({ frames := 0, cells := 0, slots := 0, locals := 0 }) s m ([.ref h] : List Value).toArray below meth c s.heap [] 0 0 (MQ below (va_Qi (fun (r : Int32) (_u : Unit) => r = (-1000002)) (fun u t => wb D A ((fun _ => []) u) t) A) ([.ref h] : List Value).toArray s 0 0 A) (F0 m 0 ls [])
  refine lv_aload_n hx hb dX7_undo_0 rfl (lv_at hl 0 rfl) ?_
  refine va_get (D := D) (ci := 6) (v := .ref ac) (C := RX7) (T := TX7) (N := 8) hx hb hts (fun _ h => List.mem_cons_of_mem _ (List.mem_append_left _ (List.mem_append_left _ (List.mem_append_right _ h)))) hown hK hP 0 rfl rfl 3 (by decide) (hts (.fieldLink RX7 33 "WinterWalk" "acts" "LWinterWalk$Acts;") (List.mem_of_getElem? (i := 1) rfl)) (fun _ h9 => h9) rfl dX7_undo_1 ?_
  refine va_get (D := D) (ci := 0) (v := .int 0) (C := RX0) (T := TX0) (N := 3) hx hb hts (fun _ h => List.mem_cons_of_mem _ (List.mem_append_left _ (List.mem_append_right _ h))) hown hK hP 1 rfl rfl 2 (by decide) (hts (.fieldLink RX7 126 "WinterWalk$Acts" "kept" "I") (List.mem_of_getElem? (i := 2) rfl)) (fun _ h9 => h9) rfl dX7_undo_4 ?_
  refine lv_if_ne (tgt := 13) hx hb dX7_undo_7 (by decide) (fun c9 => absurd (by decide) c9) (fun _ => ?_)
  refine lv_ldc (v := (-1000002)) hx hb hown (hts (.constant RX7 129 (-1000002)) (List.mem_of_getElem? (i := 3) rfl)) dX7_undo_10 ?_
  exact wr_i (v := (-1000002)) hx hb hr hlocks hS () (by rfl) (hP.sub [] rfl) (hD.sub [] (by decide) rfl) dX7_undo_12
set_option maxHeartbeats 4000000 in
set_option maxRecDepth 100000 in
theorem kx_days (l : Launch) (D : va_G) (cI cB cQ : ClassId) (sz : Nat) (h : Nat) (rw : Nat) (tp : Nat) (nw : Nat) (ac : Nat) (im : Nat) (fo : Nat) (ak : Nat) (w0 : Nat) (w1 : Nat) (w2 : Nat) (w3 : Nat) (w4 : Nat) (w5 : Nat) (w6 : Nat) (w7 : Nat) (p0 : Int32) : mi l yX7_days wsX7_days ({ frames := 1, cells := 0, slots := 0, locals := 20 }) D cI cB cQ [.ref h, .int p0] sz [(h, .inr (6, [.ref rw, .ref tp, .ref nw, .ref ac, .ref im, .ref fo, .ref ak, .int 0])), (nw, .inr (3, [.int 0, .int 0, .int 0, .int 0, .int 0, .int 0, .int 0, .int 0, .ref w0, .ref w1, .ref w2, .ref w3, .ref w4, .ref w5, .ref w6, .ref w7]))] (fun (r : Int32) (_u : Unit) => r = (-1000002)) (fun _ => []) 0 0 := by
  refine wm_i (cc := cX7_days) (maxL := 3) (ret := (some .int)) (by decide) rfl (Nat.le_of_ble_eq_true rfl) ?_
  intro p e s m below meth c A ls hx hb hr hml hown hts hlocks hin hP hK hD hN hA hl hS
  have hown : s.vm.findClass RX7 = some m.cls := hown
  have hl : lv_has ls 3 [(0, .ref h), (1, .int p0)] := hl
  change W p l e ({ frames := 1, cells := 0, slots := 0, locals := 20 }) s m ([.ref h, .int p0] : List Value).toArray below meth c s.heap [] 0 0 (MQ below (va_Qi (fun (r : Int32) (_u : Unit) => r = (-1000002)) (fun u t => wb D A ((fun _ => []) u) t) A) ([.ref h, .int p0] : List Value).toArray s 0 0 A) (F0 m 0 ls [])
  refine lv_aload_n hx hb dX7_days_0 rfl (lv_at hl 0 rfl) ?_
  refine va_get (D := D) (ci := 6) (v := .ref nw) (C := RX7) (T := TX7) (N := 8) hx hb hts (fun _ h => List.mem_cons_of_mem _ (List.mem_append_left _ (List.mem_append_left _ (List.mem_append_right _ h)))) hown hK hP 0 rfl rfl 2 (by decide) (hts (.fieldLink RX7 26 "WinterWalk" "now" "LWinterWalk$Land;") (List.mem_of_getElem? (i := 1) rfl)) (fun _ h9 => h9) rfl dX7_days_1 ?_
  have k_1 := (k_isNone l D cI cB cQ s.heap.size nw w0 w1 w2 w3 w4 w5 w6 w7)
  refine wc_i (WC := [(nw, .inr (3, [.int 0, .int 0, .int 0, .int 0, .int 0, .int 0, .int 0, .int 0, .ref w0, .ref w1, .ref w2, .ref w3, .ref w4, .ref w5, .ref w6, .ref w7]))]) (WR := [(h, .inr (6, [.ref rw, .ref tp, .ref nw, .ref ac, .ref im, .ref fo, .ref ak, .int 0]))]) (va_runV (As := []) (rest := []) ⟨hx, hb, hml, hown, hts⟩ k_1 (cwV 0 hts gX7_days_X4_isNone rfl rfl rfl (by decide +kernel) ⟨Nat.le_of_ble_eq_true rfl, Nat.le_of_ble_eq_true rfl⟩) (wp_V hP hK hD hN [1] (by decide) rfl (ci := 3) rfl rfl) rfl rfl hl.1 rfl (lv_room (Nat.le_of_ble_eq_true rfl)) dX7_days_4 ⟨Nat.le_of_ble_eq_true rfl, Nat.le_of_ble_eq_true rfl⟩) hP hD hS hA [1] [0] rfl rfl (by decide) (by decide) (fun r_1 u_1 H locs hw_1 hP hD hS => ?_)
  have hP : va_P D kl [(h, .inr (6, [.ref rw, .ref tp, .ref nw, .ref ac, .ref im, .ref fo, .ref ak, .int 0])), (nw, .inr (3, [.int 0, .int 0, .int 0, .int 0, .int 0, .int 0, .int 0, .int 0, .ref w0, .ref w1, .ref w2, .ref w3, .ref w4, .ref w5, .ref w6, .ref w7]))] H := hP
  have hD : va_D A [(h, .inr (6, [.ref rw, .ref tp, .ref nw, .ref ac, .ref im, .ref fo, .ref ak, .int 0])), (nw, .inr (3, [.int 0, .int 0, .int 0, .int 0, .int 0, .int 0, .int 0, .int 0, .ref w0, .ref w1, .ref w2, .ref w3, .ref w4, .ref w5, .ref w6, .ref w7]))] := hD
  obtain rfl : r_1 = 1 := by first | exact hw_1 | exact hw_1.trans (by decide)
  refine lv_if_eq (tgt := 13) hx hb dX7_days_7 (by decide) (fun c9 => absurd c9 (by decide)) (fun _ => ?_)
  refine lv_ldc (v := (-1000002)) hx hb hown (hts (.constant RX7 129 (-1000002)) (List.mem_of_getElem? (i := 2) rfl)) dX7_days_10 ?_
  exact wr_i (v := (-1000002)) hx hb hr hlocks hS () (by rfl) (hP.sub [] rfl) (hD.sub [] (by decide) rfl) dX7_days_12
set_option maxHeartbeats 4000000 in
set_option maxRecDepth 100000 in
theorem kx_offer (l : Launch) (D : va_G) (cI cB cQ : ClassId) (sz : Nat) (h : Nat) (rw : Nat) (tp : Nat) (nw : Nat) (ac : Nat) (im : Nat) (fo : Nat) (ak : Nat) (w0 : Nat) (w1 : Nat) (w2 : Nat) (w3 : Nat) (w4 : Nat) (w5 : Nat) (w6 : Nat) (w7 : Nat) (p0 : Int32) (p1 : Int32) : mi l yX7_offer wsX7_offer ({ frames := 1, cells := 0, slots := 0, locals := 21 }) D cI cB cQ [.ref h, .int p0, .int p1] sz [(h, .inr (6, [.ref rw, .ref tp, .ref nw, .ref ac, .ref im, .ref fo, .ref ak, .int 0])), (nw, .inr (3, [.int 0, .int 0, .int 0, .int 0, .int 0, .int 0, .int 0, .int 0, .ref w0, .ref w1, .ref w2, .ref w3, .ref w4, .ref w5, .ref w6, .ref w7]))] (fun (r : Int32) (_u : Unit) => r = (-1000001)) (fun _ => []) 0 0 := by
  refine wm_i (cc := cX7_offer) (maxL := 4) (ret := (some .int)) (by decide) rfl (Nat.le_of_ble_eq_true rfl) ?_
  intro p e s m below meth c A ls hx hb hr hml hown hts hlocks hin hP hK hD hN hA hl hS
  have hown : s.vm.findClass RX7 = some m.cls := hown
  have hl : lv_has ls 4 [(0, .ref h), (1, .int p0), (2, .int p1)] := hl
  change W p l e ({ frames := 1, cells := 0, slots := 0, locals := 21 }) s m ([.ref h, .int p0, .int p1] : List Value).toArray below meth c s.heap [] 0 0 (MQ below (va_Qi (fun (r : Int32) (_u : Unit) => r = (-1000001)) (fun u t => wb D A ((fun _ => []) u) t) A) ([.ref h, .int p0, .int p1] : List Value).toArray s 0 0 A) (F0 m 0 ls [])
  refine lv_aload_n hx hb dX7_offer_0 rfl (lv_at hl 0 rfl) ?_
  refine va_get (D := D) (ci := 6) (v := .ref nw) (C := RX7) (T := TX7) (N := 8) hx hb hts (fun _ h => List.mem_cons_of_mem _ (List.mem_append_left _ (List.mem_append_left _ (List.mem_append_right _ h)))) hown hK hP 0 rfl rfl 2 (by decide) (hts (.fieldLink RX7 26 "WinterWalk" "now" "LWinterWalk$Land;") (List.mem_of_getElem? (i := 1) rfl)) (fun _ h9 => h9) rfl dX7_offer_1 ?_
  refine lv_iload_n hx hb dX7_offer_4 rfl (lv_at hl 1 rfl) ?_
  have k_1 := (k_hasVillage l D cI cB cQ s.heap.size nw w0 w1 w2 w3 w4 w5 w6 w7 p0)
  refine wc_i (WC := [(nw, .inr (3, [.int 0, .int 0, .int 0, .int 0, .int 0, .int 0, .int 0, .int 0, .ref w0, .ref w1, .ref w2, .ref w3, .ref w4, .ref w5, .ref w6, .ref w7]))]) (WR := [(h, .inr (6, [.ref rw, .ref tp, .ref nw, .ref ac, .ref im, .ref fo, .ref ak, .int 0]))]) (va_runV (As := [.int p0]) (rest := []) ⟨hx, hb, hml, hown, hts⟩ k_1 (cwV 1 hts gX7_offer_X4_hasVillage rfl rfl rfl (by decide +kernel) ⟨Nat.le_of_ble_eq_true rfl, Nat.le_of_ble_eq_true rfl⟩) (wp_V hP hK hD hN [1] (by decide) rfl (ci := 3) rfl rfl) rfl rfl hl.1 rfl (lv_room (Nat.le_of_ble_eq_true rfl)) dX7_offer_5 ⟨Nat.le_of_ble_eq_true rfl, Nat.le_of_ble_eq_true rfl⟩) hP hD hS hA [1] [0] rfl rfl (by decide) (by decide) (fun r_1 u_1 H locs hw_1 hP hD hS => ?_)
  have hP : va_P D kl [(h, .inr (6, [.ref rw, .ref tp, .ref nw, .ref ac, .ref im, .ref fo, .ref ak, .int 0])), (nw, .inr (3, [.int 0, .int 0, .int 0, .int 0, .int 0, .int 0, .int 0, .int 0, .ref w0, .ref w1, .ref w2, .ref w3, .ref w4, .ref w5, .ref w6, .ref w7]))] H := hP
  have hD : va_D A [(h, .inr (6, [.ref rw, .ref tp, .ref nw, .ref ac, .ref im, .ref fo, .ref ak, .int 0])), (nw, .inr (3, [.int 0, .int 0, .int 0, .int 0, .int 0, .int 0, .int 0, .int 0, .ref w0, .ref w1, .ref w2, .ref w3, .ref w4, .ref w5, .ref w6, .ref w7]))] := hD
  obtain rfl : r_1 = 0 := by first | exact hw_1 | exact hw_1.trans (by decide)
  refine lv_if_eq (tgt := 21) hx hb dX7_offer_8 (by decide) (fun _ => ?_) (fun c9 => absurd (by decide) c9)
  refine lv_ldc (v := (-1000001)) hx hb hown (hts (.constant RX7 68 (-1000001)) (List.mem_of_getElem? (i := 2) rfl)) dX7_offer_21 ?_
  exact wr_i (v := (-1000001)) hx hb hr hlocks hS () (by rfl) (hP.sub [] rfl) (hD.sub [] (by decide) rfl) dX7_offer_23
set_option maxHeartbeats 4000000 in
set_option maxRecDepth 100000 in
theorem kx_door (l : Launch) (D : va_G) (cI cB cQ : ClassId) (sz : Nat) (h : Nat) (rw : Nat) (tp : Nat) (nw : Nat) (ac : Nat) (im : Nat) (fo : Nat) (ak : Nat) (w0 : Nat) (w1 : Nat) (w2 : Nat) (w3 : Nat) (w4 : Nat) (w5 : Nat) (w6 : Nat) (w7 : Nat) (p0 : Int32) (p1 : Int32) : mi l yX7_door wsX7_door ({ frames := 1, cells := 0, slots := 0, locals := 21 }) D cI cB cQ [.ref h, .int p0, .int p1] sz [(h, .inr (6, [.ref rw, .ref tp, .ref nw, .ref ac, .ref im, .ref fo, .ref ak, .int 0])), (nw, .inr (3, [.int 0, .int 0, .int 0, .int 0, .int 0, .int 0, .int 0, .int 0, .ref w0, .ref w1, .ref w2, .ref w3, .ref w4, .ref w5, .ref w6, .ref w7]))] (fun (r : Int32) (_u : Unit) => r = (-1000001)) (fun _ => []) 0 0 := by
  refine wm_i (cc := cX7_door) (maxL := 3) (ret := (some .int)) (by decide) rfl (Nat.le_of_ble_eq_true rfl) ?_
  intro p e s m below meth c A ls hx hb hr hml hown hts hlocks hin hP hK hD hN hA hl hS
  have hown : s.vm.findClass RX7 = some m.cls := hown
  have hl : lv_has ls 3 [(0, .ref h), (1, .int p0), (2, .int p1)] := hl
  change W p l e ({ frames := 1, cells := 0, slots := 0, locals := 21 }) s m ([.ref h, .int p0, .int p1] : List Value).toArray below meth c s.heap [] 0 0 (MQ below (va_Qi (fun (r : Int32) (_u : Unit) => r = (-1000001)) (fun u t => wb D A ((fun _ => []) u) t) A) ([.ref h, .int p0, .int p1] : List Value).toArray s 0 0 A) (F0 m 0 ls [])
  refine lv_aload_n hx hb dX7_door_0 rfl (lv_at hl 0 rfl) ?_
  refine va_get (D := D) (ci := 6) (v := .ref nw) (C := RX7) (T := TX7) (N := 8) hx hb hts (fun _ h => List.mem_cons_of_mem _ (List.mem_append_left _ (List.mem_append_left _ (List.mem_append_right _ h)))) hown hK hP 0 rfl rfl 2 (by decide) (hts (.fieldLink RX7 26 "WinterWalk" "now" "LWinterWalk$Land;") (List.mem_of_getElem? (i := 1) rfl)) (fun _ h9 => h9) rfl dX7_door_1 ?_
  refine lv_iload_n hx hb dX7_door_4 rfl (lv_at hl 1 rfl) ?_
  have k_1 := (k_hasVillage l D cI cB cQ s.heap.size nw w0 w1 w2 w3 w4 w5 w6 w7 p0)
  refine wc_i (WC := [(nw, .inr (3, [.int 0, .int 0, .int 0, .int 0, .int 0, .int 0, .int 0, .int 0, .ref w0, .ref w1, .ref w2, .ref w3, .ref w4, .ref w5, .ref w6, .ref w7]))]) (WR := [(h, .inr (6, [.ref rw, .ref tp, .ref nw, .ref ac, .ref im, .ref fo, .ref ak, .int 0]))]) (va_runV (As := [.int p0]) (rest := []) ⟨hx, hb, hml, hown, hts⟩ k_1 (cwV 1 hts gX7_door_X4_hasVillage rfl rfl rfl (by decide +kernel) ⟨Nat.le_of_ble_eq_true rfl, Nat.le_of_ble_eq_true rfl⟩) (wp_V hP hK hD hN [1] (by decide) rfl (ci := 3) rfl rfl) rfl rfl hl.1 rfl (lv_room (Nat.le_of_ble_eq_true rfl)) dX7_door_5 ⟨Nat.le_of_ble_eq_true rfl, Nat.le_of_ble_eq_true rfl⟩) hP hD hS hA [1] [0] rfl rfl (by decide) (by decide) (fun r_1 u_1 H locs hw_1 hP hD hS => ?_)
  have hP : va_P D kl [(h, .inr (6, [.ref rw, .ref tp, .ref nw, .ref ac, .ref im, .ref fo, .ref ak, .int 0])), (nw, .inr (3, [.int 0, .int 0, .int 0, .int 0, .int 0, .int 0, .int 0, .int 0, .ref w0, .ref w1, .ref w2, .ref w3, .ref w4, .ref w5, .ref w6, .ref w7]))] H := hP
  have hD : va_D A [(h, .inr (6, [.ref rw, .ref tp, .ref nw, .ref ac, .ref im, .ref fo, .ref ak, .int 0])), (nw, .inr (3, [.int 0, .int 0, .int 0, .int 0, .int 0, .int 0, .int 0, .int 0, .ref w0, .ref w1, .ref w2, .ref w3, .ref w4, .ref w5, .ref w6, .ref w7]))] := hD
  obtain rfl : r_1 = 0 := by first | exact hw_1 | exact hw_1.trans (by decide)
  refine lv_if_eq (tgt := 20) hx hb dX7_door_8 (by decide) (fun _ => ?_) (fun c9 => absurd (by decide) c9)
  refine lv_ldc (v := (-1000001)) hx hb hown (hts (.constant RX7 68 (-1000001)) (List.mem_of_getElem? (i := 2) rfl)) dX7_door_20 ?_
  exact wr_i (v := (-1000001)) hx hb hr hlocks hS () (by rfl) (hP.sub [] rfl) (hD.sub [] (by decide) rfl) dX7_door_22
set_option maxHeartbeats 4000000 in
set_option maxRecDepth 100000 in
theorem kx_village (l : Launch) (D : va_G) (cI cB cQ : ClassId) (sz : Nat) (h : Nat) (rw : Nat) (tp : Nat) (nw : Nat) (ac : Nat) (im : Nat) (fo : Nat) (ak : Nat) (w0 : Nat) (w1 : Nat) (w2 : Nat) (w3 : Nat) (w4 : Nat) (w5 : Nat) (w6 : Nat) (w7 : Nat) (p0 : Int32) (p1 : Int32) : mi l yX7_village wsX7_village ({ frames := 1, cells := 0, slots := 0, locals := 21 }) D cI cB cQ [.ref h, .int p0, .int p1] sz [(h, .inr (6, [.ref rw, .ref tp, .ref nw, .ref ac, .ref im, .ref fo, .ref ak, .int 0])), (nw, .inr (3, [.int 0, .int 0, .int 0, .int 0, .int 0, .int 0, .int 0, .int 0, .ref w0, .ref w1, .ref w2, .ref w3, .ref w4, .ref w5, .ref w6, .ref w7]))] (fun (r : Int32) (_u : Unit) => r = (-1000001)) (fun _ => []) 0 0 := by
  refine wm_i (cc := cX7_village) (maxL := 3) (ret := (some .int)) (by decide) rfl (Nat.le_of_ble_eq_true rfl) ?_
  intro p e s m below meth c A ls hx hb hr hml hown hts hlocks hin hP hK hD hN hA hl hS
  have hown : s.vm.findClass RX7 = some m.cls := hown
  have hl : lv_has ls 3 [(0, .ref h), (1, .int p0), (2, .int p1)] := hl
  change W p l e ({ frames := 1, cells := 0, slots := 0, locals := 21 }) s m ([.ref h, .int p0, .int p1] : List Value).toArray below meth c s.heap [] 0 0 (MQ below (va_Qi (fun (r : Int32) (_u : Unit) => r = (-1000001)) (fun u t => wb D A ((fun _ => []) u) t) A) ([.ref h, .int p0, .int p1] : List Value).toArray s 0 0 A) (F0 m 0 ls [])
  refine lv_aload_n hx hb dX7_village_0 rfl (lv_at hl 0 rfl) ?_
  refine va_get (D := D) (ci := 6) (v := .ref nw) (C := RX7) (T := TX7) (N := 8) hx hb hts (fun _ h => List.mem_cons_of_mem _ (List.mem_append_left _ (List.mem_append_right _ h))) hown hK hP 0 rfl rfl 2 (by decide) (hts (.fieldLink RX7 26 "WinterWalk" "now" "LWinterWalk$Land;") (List.mem_of_getElem? (i := 1) rfl)) (fun _ h9 => h9) rfl dX7_village_1 ?_
  refine lv_iload_n hx hb dX7_village_4 rfl (lv_at hl 1 rfl) ?_
  have k_1 := (k_hasVillage l D cI cB cQ s.heap.size nw w0 w1 w2 w3 w4 w5 w6 w7 p0)
  refine wc_i (WC := [(nw, .inr (3, [.int 0, .int 0, .int 0, .int 0, .int 0, .int 0, .int 0, .int 0, .ref w0, .ref w1, .ref w2, .ref w3, .ref w4, .ref w5, .ref w6, .ref w7]))]) (WR := [(h, .inr (6, [.ref rw, .ref tp, .ref nw, .ref ac, .ref im, .ref fo, .ref ak, .int 0]))]) (va_runV (As := [.int p0]) (rest := []) ⟨hx, hb, hml, hown, hts⟩ k_1 (cwV 1 hts gX7_village_X4_hasVillage rfl rfl rfl (by decide +kernel) ⟨Nat.le_of_ble_eq_true rfl, Nat.le_of_ble_eq_true rfl⟩) (wp_V hP hK hD hN [1] (by decide) rfl (ci := 3) rfl rfl) rfl rfl hl.1 rfl (lv_room (Nat.le_of_ble_eq_true rfl)) dX7_village_5 ⟨Nat.le_of_ble_eq_true rfl, Nat.le_of_ble_eq_true rfl⟩) hP hD hS hA [1] [0] rfl rfl (by decide) (by decide) (fun r_1 u_1 H locs hw_1 hP hD hS => ?_)
  have hP : va_P D kl [(h, .inr (6, [.ref rw, .ref tp, .ref nw, .ref ac, .ref im, .ref fo, .ref ak, .int 0])), (nw, .inr (3, [.int 0, .int 0, .int 0, .int 0, .int 0, .int 0, .int 0, .int 0, .ref w0, .ref w1, .ref w2, .ref w3, .ref w4, .ref w5, .ref w6, .ref w7]))] H := hP
  have hD : va_D A [(h, .inr (6, [.ref rw, .ref tp, .ref nw, .ref ac, .ref im, .ref fo, .ref ak, .int 0])), (nw, .inr (3, [.int 0, .int 0, .int 0, .int 0, .int 0, .int 0, .int 0, .int 0, .ref w0, .ref w1, .ref w2, .ref w3, .ref w4, .ref w5, .ref w6, .ref w7]))] := hD
  obtain rfl : r_1 = 0 := by first | exact hw_1 | exact hw_1.trans (by decide)
  refine lv_if_ne (tgt := 14) hx hb dX7_village_8 (by decide) (fun c9 => absurd (by decide) c9) (fun _ => ?_)
  refine lv_ldc (v := (-1000001)) hx hb hown (hts (.constant RX7 68 (-1000001)) (List.mem_of_getElem? (i := 2) rfl)) dX7_village_11 ?_
  exact wr_i (v := (-1000001)) hx hb hr hlocks hS () (by rfl) (hP.sub [] rfl) (hD.sub [] (by decide) rfl) dX7_village_13
set_option maxHeartbeats 4000000 in
set_option maxRecDepth 100000 in
theorem kx_walker (l : Launch) (D : va_G) (cI cB cQ : ClassId) (sz : Nat) (h : Nat) (rw : Nat) (tp : Nat) (nw : Nat) (ac : Nat) (im : Nat) (fo : Nat) (ak : Nat) (w0 : Nat) (w1 : Nat) (w2 : Nat) (w3 : Nat) (w4 : Nat) (w5 : Nat) (w6 : Nat) (w7 : Nat) (p0 : Int32) (p1 : Int32) : mi l yX7_walker wsX7_walker ({ frames := 1, cells := 0, slots := 0, locals := 21 }) D cI cB cQ [.ref h, .int p0, .int p1] sz [(h, .inr (6, [.ref rw, .ref tp, .ref nw, .ref ac, .ref im, .ref fo, .ref ak, .int 0])), (nw, .inr (3, [.int 0, .int 0, .int 0, .int 0, .int 0, .int 0, .int 0, .int 0, .ref w0, .ref w1, .ref w2, .ref w3, .ref w4, .ref w5, .ref w6, .ref w7]))] (fun (r : Int32) (_u : Unit) => r = (-1000001)) (fun _ => []) 0 0 := by
  refine wm_i (cc := cX7_walker) (maxL := 3) (ret := (some .int)) (by decide) rfl (Nat.le_of_ble_eq_true rfl) ?_
  intro p e s m below meth c A ls hx hb hr hml hown hts hlocks hin hP hK hD hN hA hl hS
  have hown : s.vm.findClass RX7 = some m.cls := hown
  have hl : lv_has ls 3 [(0, .ref h), (1, .int p0), (2, .int p1)] := hl
  change W p l e ({ frames := 1, cells := 0, slots := 0, locals := 21 }) s m ([.ref h, .int p0, .int p1] : List Value).toArray below meth c s.heap [] 0 0 (MQ below (va_Qi (fun (r : Int32) (_u : Unit) => r = (-1000001)) (fun u t => wb D A ((fun _ => []) u) t) A) ([.ref h, .int p0, .int p1] : List Value).toArray s 0 0 A) (F0 m 0 ls [])
  refine lv_aload_n hx hb dX7_walker_0 rfl (lv_at hl 0 rfl) ?_
  refine va_get (D := D) (ci := 6) (v := .ref nw) (C := RX7) (T := TX7) (N := 8) hx hb hts (fun _ h => List.mem_cons_of_mem _ (List.mem_append_left _ (List.mem_append_right _ h))) hown hK hP 0 rfl rfl 2 (by decide) (hts (.fieldLink RX7 26 "WinterWalk" "now" "LWinterWalk$Land;") (List.mem_of_getElem? (i := 1) rfl)) (fun _ h9 => h9) rfl dX7_walker_1 ?_
  refine lv_iload_n hx hb dX7_walker_4 rfl (lv_at hl 1 rfl) ?_
  have k_1 := (k_hasWalker l D cI cB cQ s.heap.size nw w0 w1 w2 w3 w4 w5 w6 w7 p0)
  refine wc_i (WC := [(nw, .inr (3, [.int 0, .int 0, .int 0, .int 0, .int 0, .int 0, .int 0, .int 0, .ref w0, .ref w1, .ref w2, .ref w3, .ref w4, .ref w5, .ref w6, .ref w7]))]) (WR := [(h, .inr (6, [.ref rw, .ref tp, .ref nw, .ref ac, .ref im, .ref fo, .ref ak, .int 0]))]) (va_runV (As := [.int p0]) (rest := []) ⟨hx, hb, hml, hown, hts⟩ k_1 (cwV 1 hts gX7_walker_X4_hasWalker rfl rfl rfl (by decide +kernel) ⟨Nat.le_of_ble_eq_true rfl, Nat.le_of_ble_eq_true rfl⟩) (wp_V hP hK hD hN [1] (by decide) rfl (ci := 3) rfl rfl) rfl rfl hl.1 rfl (lv_room (Nat.le_of_ble_eq_true rfl)) dX7_walker_5 ⟨Nat.le_of_ble_eq_true rfl, Nat.le_of_ble_eq_true rfl⟩) hP hD hS hA [1] [0] rfl rfl (by decide) (by decide) (fun r_1 u_1 H locs hw_1 hP hD hS => ?_)
  have hP : va_P D kl [(h, .inr (6, [.ref rw, .ref tp, .ref nw, .ref ac, .ref im, .ref fo, .ref ak, .int 0])), (nw, .inr (3, [.int 0, .int 0, .int 0, .int 0, .int 0, .int 0, .int 0, .int 0, .ref w0, .ref w1, .ref w2, .ref w3, .ref w4, .ref w5, .ref w6, .ref w7]))] H := hP
  have hD : va_D A [(h, .inr (6, [.ref rw, .ref tp, .ref nw, .ref ac, .ref im, .ref fo, .ref ak, .int 0])), (nw, .inr (3, [.int 0, .int 0, .int 0, .int 0, .int 0, .int 0, .int 0, .int 0, .ref w0, .ref w1, .ref w2, .ref w3, .ref w4, .ref w5, .ref w6, .ref w7]))] := hD
  obtain rfl : r_1 = 0 := by first | exact hw_1 | exact hw_1.trans (by decide)
  refine lv_if_ne (tgt := 14) hx hb dX7_walker_8 (by decide) (fun c9 => absurd (by decide) c9) (fun _ => ?_)
  refine lv_ldc (v := (-1000001)) hx hb hown (hts (.constant RX7 68 (-1000001)) (List.mem_of_getElem? (i := 2) rfl)) dX7_walker_11 ?_
  exact wr_i (v := (-1000001)) hx hb hr hlocks hS () (by rfl) (hP.sub [] rfl) (hD.sub [] (by decide) rfl) dX7_walker_13
set_option maxHeartbeats 4000000 in
set_option maxRecDepth 100000 in
theorem kx_ahead (l : Launch) (D : va_G) (cI cB cQ : ClassId) (sz : Nat) (h : Nat) (rw : Nat) (tp : Nat) (nw : Nat) (ac : Nat) (im : Nat) (fo : Nat) (ak : Nat) (w0 : Nat) (w1 : Nat) (w2 : Nat) (w3 : Nat) (w4 : Nat) (w5 : Nat) (w6 : Nat) (w7 : Nat) (p0 : Int32) (p1 : Int32) (p2 : Int32) : mi l yX7_ahead wsX7_ahead ({ frames := 1, cells := 0, slots := 0, locals := 21 }) D cI cB cQ [.ref h, .int p0, .int p1, .int p2] sz [(h, .inr (6, [.ref rw, .ref tp, .ref nw, .ref ac, .ref im, .ref fo, .ref ak, .int 0])), (nw, .inr (3, [.int 0, .int 0, .int 0, .int 0, .int 0, .int 0, .int 0, .int 0, .ref w0, .ref w1, .ref w2, .ref w3, .ref w4, .ref w5, .ref w6, .ref w7]))] (fun (r : Int32) (_u : Unit) => r = (-1000001)) (fun _ => []) 0 0 := by
  refine wm_i (cc := cX7_ahead) (maxL := 5) (ret := (some .int)) (by decide) rfl (Nat.le_of_ble_eq_true rfl) ?_
  intro p e s m below meth c A ls hx hb hr hml hown hts hlocks hin hP hK hD hN hA hl hS
  have hown : s.vm.findClass RX7 = some m.cls := hown
  have hl : lv_has ls 5 [(0, .ref h), (1, .int p0), (2, .int p1), (3, .int p2)] := hl
  change W p l e ({ frames := 1, cells := 0, slots := 0, locals := 21 }) s m ([.ref h, .int p0, .int p1, .int p2] : List Value).toArray below meth c s.heap [] 0 0 (MQ below (va_Qi (fun (r : Int32) (_u : Unit) => r = (-1000001)) (fun u t => wb D A ((fun _ => []) u) t) A) ([.ref h, .int p0, .int p1, .int p2] : List Value).toArray s 0 0 A) (F0 m 0 ls [])
  refine lv_aload_n hx hb dX7_ahead_0 rfl (lv_at hl 0 rfl) ?_
  refine va_get (D := D) (ci := 6) (v := .ref nw) (C := RX7) (T := TX7) (N := 8) hx hb hts (fun _ h => List.mem_cons_of_mem _ (List.mem_append_left _ (List.mem_append_left _ (List.mem_append_right _ h)))) hown hK hP 0 rfl rfl 2 (by decide) (hts (.fieldLink RX7 26 "WinterWalk" "now" "LWinterWalk$Land;") (List.mem_of_getElem? (i := 1) rfl)) (fun _ h9 => h9) rfl dX7_ahead_1 ?_
  refine lv_iload_n hx hb dX7_ahead_4 rfl (lv_at hl 1 rfl) ?_
  have k_1 := (k_hasWalker l D cI cB cQ s.heap.size nw w0 w1 w2 w3 w4 w5 w6 w7 p0)
  refine wc_i (WC := [(nw, .inr (3, [.int 0, .int 0, .int 0, .int 0, .int 0, .int 0, .int 0, .int 0, .ref w0, .ref w1, .ref w2, .ref w3, .ref w4, .ref w5, .ref w6, .ref w7]))]) (WR := [(h, .inr (6, [.ref rw, .ref tp, .ref nw, .ref ac, .ref im, .ref fo, .ref ak, .int 0]))]) (va_runV (As := [.int p0]) (rest := []) ⟨hx, hb, hml, hown, hts⟩ k_1 (cwV 1 hts gX7_ahead_X4_hasWalker rfl rfl rfl (by decide +kernel) ⟨Nat.le_of_ble_eq_true rfl, Nat.le_of_ble_eq_true rfl⟩) (wp_V hP hK hD hN [1] (by decide) rfl (ci := 3) rfl rfl) rfl rfl hl.1 rfl (lv_room (Nat.le_of_ble_eq_true rfl)) dX7_ahead_5 ⟨Nat.le_of_ble_eq_true rfl, Nat.le_of_ble_eq_true rfl⟩) hP hD hS hA [1] [0] rfl rfl (by decide) (by decide) (fun r_1 u_1 H locs hw_1 hP hD hS => ?_)
  have hP : va_P D kl [(h, .inr (6, [.ref rw, .ref tp, .ref nw, .ref ac, .ref im, .ref fo, .ref ak, .int 0])), (nw, .inr (3, [.int 0, .int 0, .int 0, .int 0, .int 0, .int 0, .int 0, .int 0, .ref w0, .ref w1, .ref w2, .ref w3, .ref w4, .ref w5, .ref w6, .ref w7]))] H := hP
  have hD : va_D A [(h, .inr (6, [.ref rw, .ref tp, .ref nw, .ref ac, .ref im, .ref fo, .ref ak, .int 0])), (nw, .inr (3, [.int 0, .int 0, .int 0, .int 0, .int 0, .int 0, .int 0, .int 0, .ref w0, .ref w1, .ref w2, .ref w3, .ref w4, .ref w5, .ref w6, .ref w7]))] := hD
  obtain rfl : r_1 = 0 := by first | exact hw_1 | exact hw_1.trans (by decide)
  refine lv_if_eq (tgt := 30) hx hb dX7_ahead_8 (by decide) (fun _ => ?_) (fun c9 => absurd (by decide) c9)
  refine lv_ldc (v := (-1000001)) hx hb hown (hts (.constant RX7 68 (-1000001)) (List.mem_of_getElem? (i := 2) rfl)) dX7_ahead_30 ?_
  exact wr_i (v := (-1000001)) hx hb hr hlocks hS () (by rfl) (hP.sub [] rfl) (hD.sub [] (by decide) rfl) dX7_ahead_32
set_option maxHeartbeats 4000000 in
set_option maxRecDepth 100000 in
theorem kx_cold (l : Launch) (D : va_G) (cI cB cQ : ClassId) (sz : Nat) (h : Nat) (rw : Nat) (tp : Nat) (nw : Nat) (ac : Nat) (im : Nat) (fo : Nat) (ak : Nat) (w0 : Nat) (w1 : Nat) (w2 : Nat) (w3 : Nat) (w4 : Nat) (w5 : Nat) (w6 : Nat) (w7 : Nat) (p0 : Int32) (p1 : Int32) : mi l yX7_cold wsX7_cold ({ frames := 1, cells := 0, slots := 0, locals := 20 }) D cI cB cQ [.ref h, .int p0, .int p1] sz [(h, .inr (6, [.ref rw, .ref tp, .ref nw, .ref ac, .ref im, .ref fo, .ref ak, .int 0])), (nw, .inr (3, [.int 0, .int 0, .int 0, .int 0, .int 0, .int 0, .int 0, .int 0, .ref w0, .ref w1, .ref w2, .ref w3, .ref w4, .ref w5, .ref w6, .ref w7]))] (fun (r : Int32) (_u : Unit) => r = (-1000002)) (fun _ => []) 0 0 := by
  refine wm_i (cc := cX7_cold) (maxL := 4) (ret := (some .int)) (by decide) rfl (Nat.le_of_ble_eq_true rfl) ?_
  intro p e s m below meth c A ls hx hb hr hml hown hts hlocks hin hP hK hD hN hA hl hS
  have hown : s.vm.findClass RX7 = some m.cls := hown
  have hl : lv_has ls 4 [(0, .ref h), (1, .int p0), (2, .int p1)] := hl
  change W p l e ({ frames := 1, cells := 0, slots := 0, locals := 20 }) s m ([.ref h, .int p0, .int p1] : List Value).toArray below meth c s.heap [] 0 0 (MQ below (va_Qi (fun (r : Int32) (_u : Unit) => r = (-1000002)) (fun u t => wb D A ((fun _ => []) u) t) A) ([.ref h, .int p0, .int p1] : List Value).toArray s 0 0 A) (F0 m 0 ls [])
  refine lv_aload_n hx hb dX7_cold_0 rfl (lv_at hl 0 rfl) ?_
  refine va_get (D := D) (ci := 6) (v := .ref nw) (C := RX7) (T := TX7) (N := 8) hx hb hts (fun _ h => List.mem_cons_of_mem _ (List.mem_append_left _ (List.mem_append_left _ (List.mem_append_right _ h)))) hown hK hP 0 rfl rfl 2 (by decide) (hts (.fieldLink RX7 26 "WinterWalk" "now" "LWinterWalk$Land;") (List.mem_of_getElem? (i := 1) rfl)) (fun _ h9 => h9) rfl dX7_cold_1 ?_
  have k_1 := (k_isNone l D cI cB cQ s.heap.size nw w0 w1 w2 w3 w4 w5 w6 w7)
  refine wc_i (WC := [(nw, .inr (3, [.int 0, .int 0, .int 0, .int 0, .int 0, .int 0, .int 0, .int 0, .ref w0, .ref w1, .ref w2, .ref w3, .ref w4, .ref w5, .ref w6, .ref w7]))]) (WR := [(h, .inr (6, [.ref rw, .ref tp, .ref nw, .ref ac, .ref im, .ref fo, .ref ak, .int 0]))]) (va_runV (As := []) (rest := []) ⟨hx, hb, hml, hown, hts⟩ k_1 (cwV 0 hts gX7_cold_X4_isNone rfl rfl rfl (by decide +kernel) ⟨Nat.le_of_ble_eq_true rfl, Nat.le_of_ble_eq_true rfl⟩) (wp_V hP hK hD hN [1] (by decide) rfl (ci := 3) rfl rfl) rfl rfl hl.1 rfl (lv_room (Nat.le_of_ble_eq_true rfl)) dX7_cold_4 ⟨Nat.le_of_ble_eq_true rfl, Nat.le_of_ble_eq_true rfl⟩) hP hD hS hA [1] [0] rfl rfl (by decide) (by decide) (fun r_1 u_1 H locs hw_1 hP hD hS => ?_)
  have hP : va_P D kl [(h, .inr (6, [.ref rw, .ref tp, .ref nw, .ref ac, .ref im, .ref fo, .ref ak, .int 0])), (nw, .inr (3, [.int 0, .int 0, .int 0, .int 0, .int 0, .int 0, .int 0, .int 0, .ref w0, .ref w1, .ref w2, .ref w3, .ref w4, .ref w5, .ref w6, .ref w7]))] H := hP
  have hD : va_D A [(h, .inr (6, [.ref rw, .ref tp, .ref nw, .ref ac, .ref im, .ref fo, .ref ak, .int 0])), (nw, .inr (3, [.int 0, .int 0, .int 0, .int 0, .int 0, .int 0, .int 0, .int 0, .ref w0, .ref w1, .ref w2, .ref w3, .ref w4, .ref w5, .ref w6, .ref w7]))] := hD
  obtain rfl : r_1 = 1 := by first | exact hw_1 | exact hw_1.trans (by decide)
  refine lv_if_eq (tgt := 13) hx hb dX7_cold_7 (by decide) (fun c9 => absurd c9 (by decide)) (fun _ => ?_)
  refine lv_ldc (v := (-1000002)) hx hb hown (hts (.constant RX7 129 (-1000002)) (List.mem_of_getElem? (i := 2) rfl)) dX7_cold_10 ?_
  exact wr_i (v := (-1000002)) hx hb hr hlocks hS () (by rfl) (hP.sub [] rfl) (hD.sub [] (by decide) rfl) dX7_cold_12
set_option maxHeartbeats 4000000 in
set_option maxRecDepth 100000 in
theorem kx_nights (l : Launch) (D : va_G) (cI cB cQ : ClassId) (sz : Nat) (h : Nat) (rw : Nat) (tp : Nat) (nw : Nat) (ac : Nat) (im : Nat) (fo : Nat) (ak : Nat) (w0 : Nat) (w1 : Nat) (w2 : Nat) (w3 : Nat) (w4 : Nat) (w5 : Nat) (w6 : Nat) (w7 : Nat) (p0 : Int32) (p1 : Int32) : mi l yX7_nights wsX7_nights ({ frames := 1, cells := 0, slots := 0, locals := 21 }) D cI cB cQ [.ref h, .int p0, .int p1] sz [(h, .inr (6, [.ref rw, .ref tp, .ref nw, .ref ac, .ref im, .ref fo, .ref ak, .int 0])), (nw, .inr (3, [.int 0, .int 0, .int 0, .int 0, .int 0, .int 0, .int 0, .int 0, .ref w0, .ref w1, .ref w2, .ref w3, .ref w4, .ref w5, .ref w6, .ref w7]))] (fun (r : Int32) (_u : Unit) => r = (-1000001)) (fun _ => []) 0 0 := by
  refine wm_i (cc := cX7_nights) (maxL := 3) (ret := (some .int)) (by decide) rfl (Nat.le_of_ble_eq_true rfl) ?_
  intro p e s m below meth c A ls hx hb hr hml hown hts hlocks hin hP hK hD hN hA hl hS
  have hown : s.vm.findClass RX7 = some m.cls := hown
  have hl : lv_has ls 3 [(0, .ref h), (1, .int p0), (2, .int p1)] := hl
  change W p l e ({ frames := 1, cells := 0, slots := 0, locals := 21 }) s m ([.ref h, .int p0, .int p1] : List Value).toArray below meth c s.heap [] 0 0 (MQ below (va_Qi (fun (r : Int32) (_u : Unit) => r = (-1000001)) (fun u t => wb D A ((fun _ => []) u) t) A) ([.ref h, .int p0, .int p1] : List Value).toArray s 0 0 A) (F0 m 0 ls [])
  refine lv_aload_n hx hb dX7_nights_0 rfl (lv_at hl 0 rfl) ?_
  refine va_get (D := D) (ci := 6) (v := .ref nw) (C := RX7) (T := TX7) (N := 8) hx hb hts (fun _ h => List.mem_cons_of_mem _ (List.mem_append_left _ (List.mem_append_left _ (List.mem_append_right _ h)))) hown hK hP 0 rfl rfl 2 (by decide) (hts (.fieldLink RX7 26 "WinterWalk" "now" "LWinterWalk$Land;") (List.mem_of_getElem? (i := 1) rfl)) (fun _ h9 => h9) rfl dX7_nights_1 ?_
  refine lv_iload_n hx hb dX7_nights_4 rfl (lv_at hl 1 rfl) ?_
  have k_1 := (k_hasVillage l D cI cB cQ s.heap.size nw w0 w1 w2 w3 w4 w5 w6 w7 p0)
  refine wc_i (WC := [(nw, .inr (3, [.int 0, .int 0, .int 0, .int 0, .int 0, .int 0, .int 0, .int 0, .ref w0, .ref w1, .ref w2, .ref w3, .ref w4, .ref w5, .ref w6, .ref w7]))]) (WR := [(h, .inr (6, [.ref rw, .ref tp, .ref nw, .ref ac, .ref im, .ref fo, .ref ak, .int 0]))]) (va_runV (As := [.int p0]) (rest := []) ⟨hx, hb, hml, hown, hts⟩ k_1 (cwV 1 hts gX7_nights_X4_hasVillage rfl rfl rfl (by decide +kernel) ⟨Nat.le_of_ble_eq_true rfl, Nat.le_of_ble_eq_true rfl⟩) (wp_V hP hK hD hN [1] (by decide) rfl (ci := 3) rfl rfl) rfl rfl hl.1 rfl (lv_room (Nat.le_of_ble_eq_true rfl)) dX7_nights_5 ⟨Nat.le_of_ble_eq_true rfl, Nat.le_of_ble_eq_true rfl⟩) hP hD hS hA [1] [0] rfl rfl (by decide) (by decide) (fun r_1 u_1 H locs hw_1 hP hD hS => ?_)
  have hP : va_P D kl [(h, .inr (6, [.ref rw, .ref tp, .ref nw, .ref ac, .ref im, .ref fo, .ref ak, .int 0])), (nw, .inr (3, [.int 0, .int 0, .int 0, .int 0, .int 0, .int 0, .int 0, .int 0, .ref w0, .ref w1, .ref w2, .ref w3, .ref w4, .ref w5, .ref w6, .ref w7]))] H := hP
  have hD : va_D A [(h, .inr (6, [.ref rw, .ref tp, .ref nw, .ref ac, .ref im, .ref fo, .ref ak, .int 0])), (nw, .inr (3, [.int 0, .int 0, .int 0, .int 0, .int 0, .int 0, .int 0, .int 0, .ref w0, .ref w1, .ref w2, .ref w3, .ref w4, .ref w5, .ref w6, .ref w7]))] := hD
  obtain rfl : r_1 = 0 := by first | exact hw_1 | exact hw_1.trans (by decide)
  refine lv_if_eq (tgt := 21) hx hb dX7_nights_8 (by decide) (fun _ => ?_) (fun c9 => absurd (by decide) c9)
  refine lv_ldc (v := (-1000001)) hx hb hown (hts (.constant RX7 68 (-1000001)) (List.mem_of_getElem? (i := 2) rfl)) dX7_nights_21 ?_
  exact wr_i (v := (-1000001)) hx hb hr hlocks hS () (by rfl) (hP.sub [] rfl) (hD.sub [] (by decide) rfl) dX7_nights_23
set_option maxHeartbeats 4000000 in
set_option maxRecDepth 100000 in
theorem kx_freezes (l : Launch) (D : va_G) (cI cB cQ : ClassId) (sz : Nat) (h : Nat) (rw : Nat) (tp : Nat) (nw : Nat) (ac : Nat) (im : Nat) (fo : Nat) (ak : Nat) (w0 : Nat) (w1 : Nat) (w2 : Nat) (w3 : Nat) (w4 : Nat) (w5 : Nat) (w6 : Nat) (w7 : Nat) (p0 : Int32) (p1 : Int32) : mi l yX7_freezes wsX7_freezes ({ frames := 1, cells := 0, slots := 0, locals := 21 }) D cI cB cQ [.ref h, .int p0, .int p1] sz [(h, .inr (6, [.ref rw, .ref tp, .ref nw, .ref ac, .ref im, .ref fo, .ref ak, .int 0])), (nw, .inr (3, [.int 0, .int 0, .int 0, .int 0, .int 0, .int 0, .int 0, .int 0, .ref w0, .ref w1, .ref w2, .ref w3, .ref w4, .ref w5, .ref w6, .ref w7]))] (fun (r : Int32) (_u : Unit) => r = (-1000001)) (fun _ => []) 0 0 := by
  refine wm_i (cc := cX7_freezes) (maxL := 3) (ret := (some .int)) (by decide) rfl (Nat.le_of_ble_eq_true rfl) ?_
  intro p e s m below meth c A ls hx hb hr hml hown hts hlocks hin hP hK hD hN hA hl hS
  have hown : s.vm.findClass RX7 = some m.cls := hown
  have hl : lv_has ls 3 [(0, .ref h), (1, .int p0), (2, .int p1)] := hl
  change W p l e ({ frames := 1, cells := 0, slots := 0, locals := 21 }) s m ([.ref h, .int p0, .int p1] : List Value).toArray below meth c s.heap [] 0 0 (MQ below (va_Qi (fun (r : Int32) (_u : Unit) => r = (-1000001)) (fun u t => wb D A ((fun _ => []) u) t) A) ([.ref h, .int p0, .int p1] : List Value).toArray s 0 0 A) (F0 m 0 ls [])
  refine lv_aload_n hx hb dX7_freezes_0 rfl (lv_at hl 0 rfl) ?_
  refine va_get (D := D) (ci := 6) (v := .ref nw) (C := RX7) (T := TX7) (N := 8) hx hb hts (fun _ h => List.mem_cons_of_mem _ (List.mem_append_left _ (List.mem_append_left _ (List.mem_append_right _ h)))) hown hK hP 0 rfl rfl 2 (by decide) (hts (.fieldLink RX7 26 "WinterWalk" "now" "LWinterWalk$Land;") (List.mem_of_getElem? (i := 1) rfl)) (fun _ h9 => h9) rfl dX7_freezes_1 ?_
  refine lv_iload_n hx hb dX7_freezes_4 rfl (lv_at hl 1 rfl) ?_
  have k_1 := (k_hasVillage l D cI cB cQ s.heap.size nw w0 w1 w2 w3 w4 w5 w6 w7 p0)
  refine wc_i (WC := [(nw, .inr (3, [.int 0, .int 0, .int 0, .int 0, .int 0, .int 0, .int 0, .int 0, .ref w0, .ref w1, .ref w2, .ref w3, .ref w4, .ref w5, .ref w6, .ref w7]))]) (WR := [(h, .inr (6, [.ref rw, .ref tp, .ref nw, .ref ac, .ref im, .ref fo, .ref ak, .int 0]))]) (va_runV (As := [.int p0]) (rest := []) ⟨hx, hb, hml, hown, hts⟩ k_1 (cwV 1 hts gX7_freezes_X4_hasVillage rfl rfl rfl (by decide +kernel) ⟨Nat.le_of_ble_eq_true rfl, Nat.le_of_ble_eq_true rfl⟩) (wp_V hP hK hD hN [1] (by decide) rfl (ci := 3) rfl rfl) rfl rfl hl.1 rfl (lv_room (Nat.le_of_ble_eq_true rfl)) dX7_freezes_5 ⟨Nat.le_of_ble_eq_true rfl, Nat.le_of_ble_eq_true rfl⟩) hP hD hS hA [1] [0] rfl rfl (by decide) (by decide) (fun r_1 u_1 H locs hw_1 hP hD hS => ?_)
  have hP : va_P D kl [(h, .inr (6, [.ref rw, .ref tp, .ref nw, .ref ac, .ref im, .ref fo, .ref ak, .int 0])), (nw, .inr (3, [.int 0, .int 0, .int 0, .int 0, .int 0, .int 0, .int 0, .int 0, .ref w0, .ref w1, .ref w2, .ref w3, .ref w4, .ref w5, .ref w6, .ref w7]))] H := hP
  have hD : va_D A [(h, .inr (6, [.ref rw, .ref tp, .ref nw, .ref ac, .ref im, .ref fo, .ref ak, .int 0])), (nw, .inr (3, [.int 0, .int 0, .int 0, .int 0, .int 0, .int 0, .int 0, .int 0, .ref w0, .ref w1, .ref w2, .ref w3, .ref w4, .ref w5, .ref w6, .ref w7]))] := hD
  obtain rfl : r_1 = 0 := by first | exact hw_1 | exact hw_1.trans (by decide)
  refine lv_if_eq (tgt := 21) hx hb dX7_freezes_8 (by decide) (fun _ => ?_) (fun c9 => absurd (by decide) c9)
  refine lv_ldc (v := (-1000001)) hx hb hown (hts (.constant RX7 68 (-1000001)) (List.mem_of_getElem? (i := 2) rfl)) dX7_freezes_21 ?_
  exact wr_i (v := (-1000001)) hx hb hr hlocks hS () (by rfl) (hP.sub [] rfl) (hD.sub [] (by decide) rfl) dX7_freezes_23
set_option maxHeartbeats 4000000 in
set_option maxRecDepth 100000 in
theorem kx_warn (l : Launch) (D : va_G) (cI cB cQ : ClassId) (sz : Nat) (h : Nat) (rw : Nat) (tp : Nat) (nw : Nat) (ac : Nat) (im : Nat) (fo : Nat) (ak : Nat) (w0 : Nat) (w1 : Nat) (w2 : Nat) (w3 : Nat) (w4 : Nat) (w5 : Nat) (w6 : Nat) (w7 : Nat) (p0 : Int32) : mi l yX7_warn wsX7_warn ({ frames := 1, cells := 0, slots := 0, locals := 20 }) D cI cB cQ [.ref h, .int p0] sz [(h, .inr (6, [.ref rw, .ref tp, .ref nw, .ref ac, .ref im, .ref fo, .ref ak, .int 0])), (nw, .inr (3, [.int 0, .int 0, .int 0, .int 0, .int 0, .int 0, .int 0, .int 0, .ref w0, .ref w1, .ref w2, .ref w3, .ref w4, .ref w5, .ref w6, .ref w7]))] (fun (r : Int32) (_u : Unit) => r = (-1000002)) (fun _ => []) 0 0 := by
  refine wm_i (cc := cX7_warn) (maxL := 2) (ret := (some .int)) (by decide) rfl (Nat.le_of_ble_eq_true rfl) ?_
  intro p e s m below meth c A ls hx hb hr hml hown hts hlocks hin hP hK hD hN hA hl hS
  have hown : s.vm.findClass RX7 = some m.cls := hown
  have hl : lv_has ls 2 [(0, .ref h), (1, .int p0)] := hl
  change W p l e ({ frames := 1, cells := 0, slots := 0, locals := 20 }) s m ([.ref h, .int p0] : List Value).toArray below meth c s.heap [] 0 0 (MQ below (va_Qi (fun (r : Int32) (_u : Unit) => r = (-1000002)) (fun u t => wb D A ((fun _ => []) u) t) A) ([.ref h, .int p0] : List Value).toArray s 0 0 A) (F0 m 0 ls [])
  refine lv_aload_n hx hb dX7_warn_0 rfl (lv_at hl 0 rfl) ?_
  refine va_get (D := D) (ci := 6) (v := .ref nw) (C := RX7) (T := TX7) (N := 8) hx hb hts (fun _ h => List.mem_cons_of_mem _ (List.mem_append_left _ (List.mem_append_left _ (List.mem_append_right _ h)))) hown hK hP 0 rfl rfl 2 (by decide) (hts (.fieldLink RX7 26 "WinterWalk" "now" "LWinterWalk$Land;") (List.mem_of_getElem? (i := 1) rfl)) (fun _ h9 => h9) rfl dX7_warn_1 ?_
  have k_1 := (k_isNone l D cI cB cQ s.heap.size nw w0 w1 w2 w3 w4 w5 w6 w7)
  refine wc_i (WC := [(nw, .inr (3, [.int 0, .int 0, .int 0, .int 0, .int 0, .int 0, .int 0, .int 0, .ref w0, .ref w1, .ref w2, .ref w3, .ref w4, .ref w5, .ref w6, .ref w7]))]) (WR := [(h, .inr (6, [.ref rw, .ref tp, .ref nw, .ref ac, .ref im, .ref fo, .ref ak, .int 0]))]) (va_runV (As := []) (rest := []) ⟨hx, hb, hml, hown, hts⟩ k_1 (cwV 0 hts gX7_warn_X4_isNone rfl rfl rfl (by decide +kernel) ⟨Nat.le_of_ble_eq_true rfl, Nat.le_of_ble_eq_true rfl⟩) (wp_V hP hK hD hN [1] (by decide) rfl (ci := 3) rfl rfl) rfl rfl hl.1 rfl (lv_room (Nat.le_of_ble_eq_true rfl)) dX7_warn_4 ⟨Nat.le_of_ble_eq_true rfl, Nat.le_of_ble_eq_true rfl⟩) hP hD hS hA [1] [0] rfl rfl (by decide) (by decide) (fun r_1 u_1 H locs hw_1 hP hD hS => ?_)
  have hP : va_P D kl [(h, .inr (6, [.ref rw, .ref tp, .ref nw, .ref ac, .ref im, .ref fo, .ref ak, .int 0])), (nw, .inr (3, [.int 0, .int 0, .int 0, .int 0, .int 0, .int 0, .int 0, .int 0, .ref w0, .ref w1, .ref w2, .ref w3, .ref w4, .ref w5, .ref w6, .ref w7]))] H := hP
  have hD : va_D A [(h, .inr (6, [.ref rw, .ref tp, .ref nw, .ref ac, .ref im, .ref fo, .ref ak, .int 0])), (nw, .inr (3, [.int 0, .int 0, .int 0, .int 0, .int 0, .int 0, .int 0, .int 0, .ref w0, .ref w1, .ref w2, .ref w3, .ref w4, .ref w5, .ref w6, .ref w7]))] := hD
  obtain rfl : r_1 = 1 := by first | exact hw_1 | exact hw_1.trans (by decide)
  refine lv_if_eq (tgt := 13) hx hb dX7_warn_7 (by decide) (fun c9 => absurd c9 (by decide)) (fun _ => ?_)
  refine lv_ldc (v := (-1000002)) hx hb hown (hts (.constant RX7 129 (-1000002)) (List.mem_of_getElem? (i := 2) rfl)) dX7_warn_10 ?_
  exact wr_i (v := (-1000002)) hx hb hr hlocks hS () (by rfl) (hP.sub [] rfl) (hD.sub [] (by decide) rfl) dX7_warn_12
set_option maxHeartbeats 4000000 in
set_option maxRecDepth 100000 in
theorem kx_lure (l : Launch) (D : va_G) (cI cB cQ : ClassId) (sz : Nat) (h : Nat) (rw : Nat) (tp : Nat) (nw : Nat) (ac : Nat) (im : Nat) (fo : Nat) (ak : Nat) (w0 : Nat) (w1 : Nat) (w2 : Nat) (w3 : Nat) (w4 : Nat) (w5 : Nat) (w6 : Nat) (w7 : Nat) (p0 : Int32) (p1 : Int32) : mi l yX7_lure wsX7_lure ({ frames := 1, cells := 0, slots := 0, locals := 21 }) D cI cB cQ [.ref h, .int p0, .int p1] sz [(h, .inr (6, [.ref rw, .ref tp, .ref nw, .ref ac, .ref im, .ref fo, .ref ak, .int 0])), (nw, .inr (3, [.int 0, .int 0, .int 0, .int 0, .int 0, .int 0, .int 0, .int 0, .ref w0, .ref w1, .ref w2, .ref w3, .ref w4, .ref w5, .ref w6, .ref w7]))] (fun (r : Int32) (_u : Unit) => r = (-1000001)) (fun _ => []) 0 0 := by
  refine wm_i (cc := cX7_lure) (maxL := 3) (ret := (some .int)) (by decide) rfl (Nat.le_of_ble_eq_true rfl) ?_
  intro p e s m below meth c A ls hx hb hr hml hown hts hlocks hin hP hK hD hN hA hl hS
  have hown : s.vm.findClass RX7 = some m.cls := hown
  have hl : lv_has ls 3 [(0, .ref h), (1, .int p0), (2, .int p1)] := hl
  change W p l e ({ frames := 1, cells := 0, slots := 0, locals := 21 }) s m ([.ref h, .int p0, .int p1] : List Value).toArray below meth c s.heap [] 0 0 (MQ below (va_Qi (fun (r : Int32) (_u : Unit) => r = (-1000001)) (fun u t => wb D A ((fun _ => []) u) t) A) ([.ref h, .int p0, .int p1] : List Value).toArray s 0 0 A) (F0 m 0 ls [])
  refine lv_aload_n hx hb dX7_lure_0 rfl (lv_at hl 0 rfl) ?_
  refine va_get (D := D) (ci := 6) (v := .ref nw) (C := RX7) (T := TX7) (N := 8) hx hb hts (fun _ h => List.mem_cons_of_mem _ (List.mem_append_left _ (List.mem_append_left _ (List.mem_append_right _ h)))) hown hK hP 0 rfl rfl 2 (by decide) (hts (.fieldLink RX7 26 "WinterWalk" "now" "LWinterWalk$Land;") (List.mem_of_getElem? (i := 1) rfl)) (fun _ h9 => h9) rfl dX7_lure_1 ?_
  refine lv_iload_n hx hb dX7_lure_4 rfl (lv_at hl 1 rfl) ?_
  have k_1 := (k_hasVillage l D cI cB cQ s.heap.size nw w0 w1 w2 w3 w4 w5 w6 w7 p0)
  refine wc_i (WC := [(nw, .inr (3, [.int 0, .int 0, .int 0, .int 0, .int 0, .int 0, .int 0, .int 0, .ref w0, .ref w1, .ref w2, .ref w3, .ref w4, .ref w5, .ref w6, .ref w7]))]) (WR := [(h, .inr (6, [.ref rw, .ref tp, .ref nw, .ref ac, .ref im, .ref fo, .ref ak, .int 0]))]) (va_runV (As := [.int p0]) (rest := []) ⟨hx, hb, hml, hown, hts⟩ k_1 (cwV 1 hts gX7_lure_X4_hasVillage rfl rfl rfl (by decide +kernel) ⟨Nat.le_of_ble_eq_true rfl, Nat.le_of_ble_eq_true rfl⟩) (wp_V hP hK hD hN [1] (by decide) rfl (ci := 3) rfl rfl) rfl rfl hl.1 rfl (lv_room (Nat.le_of_ble_eq_true rfl)) dX7_lure_5 ⟨Nat.le_of_ble_eq_true rfl, Nat.le_of_ble_eq_true rfl⟩) hP hD hS hA [1] [0] rfl rfl (by decide) (by decide) (fun r_1 u_1 H locs hw_1 hP hD hS => ?_)
  have hP : va_P D kl [(h, .inr (6, [.ref rw, .ref tp, .ref nw, .ref ac, .ref im, .ref fo, .ref ak, .int 0])), (nw, .inr (3, [.int 0, .int 0, .int 0, .int 0, .int 0, .int 0, .int 0, .int 0, .ref w0, .ref w1, .ref w2, .ref w3, .ref w4, .ref w5, .ref w6, .ref w7]))] H := hP
  have hD : va_D A [(h, .inr (6, [.ref rw, .ref tp, .ref nw, .ref ac, .ref im, .ref fo, .ref ak, .int 0])), (nw, .inr (3, [.int 0, .int 0, .int 0, .int 0, .int 0, .int 0, .int 0, .int 0, .ref w0, .ref w1, .ref w2, .ref w3, .ref w4, .ref w5, .ref w6, .ref w7]))] := hD
  obtain rfl : r_1 = 0 := by first | exact hw_1 | exact hw_1.trans (by decide)
  refine lv_if_eq (tgt := 21) hx hb dX7_lure_8 (by decide) (fun _ => ?_) (fun c9 => absurd (by decide) c9)
  refine lv_ldc (v := (-1000001)) hx hb hown (hts (.constant RX7 68 (-1000001)) (List.mem_of_getElem? (i := 2) rfl)) dX7_lure_21 ?_
  exact wr_i (v := (-1000001)) hx hb hr hlocks hS () (by rfl) (hP.sub [] rfl) (hD.sub [] (by decide) rfl) dX7_lure_23
set_option maxHeartbeats 4000000 in
set_option maxRecDepth 100000 in
theorem kx_keepsAway (l : Launch) (D : va_G) (cI cB cQ : ClassId) (sz : Nat) (h : Nat) (rw : Nat) (tp : Nat) (nw : Nat) (ac : Nat) (im : Nat) (fo : Nat) (ak : Nat) (w0 : Nat) (w1 : Nat) (w2 : Nat) (w3 : Nat) (w4 : Nat) (w5 : Nat) (w6 : Nat) (w7 : Nat) (p0 : Int32) (p1 : Int32) (p2 : Int32) : mi l yX7_keepsAway wsX7_keepsAway ({ frames := 1, cells := 0, slots := 0, locals := 21 }) D cI cB cQ [.ref h, .int p0, .int p1, .int p2] sz [(h, .inr (6, [.ref rw, .ref tp, .ref nw, .ref ac, .ref im, .ref fo, .ref ak, .int 0])), (nw, .inr (3, [.int 0, .int 0, .int 0, .int 0, .int 0, .int 0, .int 0, .int 0, .ref w0, .ref w1, .ref w2, .ref w3, .ref w4, .ref w5, .ref w6, .ref w7]))] (fun (r : Int32) (_u : Unit) => r = (-1000001)) (fun _ => []) 0 0 := by
  refine wm_i (cc := cX7_keepsAway) (maxL := 5) (ret := (some .int)) (by decide) rfl (Nat.le_of_ble_eq_true rfl) ?_
  intro p e s m below meth c A ls hx hb hr hml hown hts hlocks hin hP hK hD hN hA hl hS
  have hown : s.vm.findClass RX7 = some m.cls := hown
  have hl : lv_has ls 5 [(0, .ref h), (1, .int p0), (2, .int p1), (3, .int p2)] := hl
  change W p l e ({ frames := 1, cells := 0, slots := 0, locals := 21 }) s m ([.ref h, .int p0, .int p1, .int p2] : List Value).toArray below meth c s.heap [] 0 0 (MQ below (va_Qi (fun (r : Int32) (_u : Unit) => r = (-1000001)) (fun u t => wb D A ((fun _ => []) u) t) A) ([.ref h, .int p0, .int p1, .int p2] : List Value).toArray s 0 0 A) (F0 m 0 ls [])
  refine lv_aload_n hx hb dX7_keepsAway_0 rfl (lv_at hl 0 rfl) ?_
  refine va_get (D := D) (ci := 6) (v := .ref nw) (C := RX7) (T := TX7) (N := 8) hx hb hts (fun _ h => List.mem_cons_of_mem _ (List.mem_append_left _ (List.mem_append_left _ (List.mem_append_right _ h)))) hown hK hP 0 rfl rfl 2 (by decide) (hts (.fieldLink RX7 26 "WinterWalk" "now" "LWinterWalk$Land;") (List.mem_of_getElem? (i := 1) rfl)) (fun _ h9 => h9) rfl dX7_keepsAway_1 ?_
  refine lv_iload_n hx hb dX7_keepsAway_4 rfl (lv_at hl 1 rfl) ?_
  have k_1 := (k_hasVillage l D cI cB cQ s.heap.size nw w0 w1 w2 w3 w4 w5 w6 w7 p0)
  refine wc_i (WC := [(nw, .inr (3, [.int 0, .int 0, .int 0, .int 0, .int 0, .int 0, .int 0, .int 0, .ref w0, .ref w1, .ref w2, .ref w3, .ref w4, .ref w5, .ref w6, .ref w7]))]) (WR := [(h, .inr (6, [.ref rw, .ref tp, .ref nw, .ref ac, .ref im, .ref fo, .ref ak, .int 0]))]) (va_runV (As := [.int p0]) (rest := []) ⟨hx, hb, hml, hown, hts⟩ k_1 (cwV 1 hts gX7_keepsAway_X4_hasVillage rfl rfl rfl (by decide +kernel) ⟨Nat.le_of_ble_eq_true rfl, Nat.le_of_ble_eq_true rfl⟩) (wp_V hP hK hD hN [1] (by decide) rfl (ci := 3) rfl rfl) rfl rfl hl.1 rfl (lv_room (Nat.le_of_ble_eq_true rfl)) dX7_keepsAway_5 ⟨Nat.le_of_ble_eq_true rfl, Nat.le_of_ble_eq_true rfl⟩) hP hD hS hA [1] [0] rfl rfl (by decide) (by decide) (fun r_1 u_1 H locs hw_1 hP hD hS => ?_)
  have hP : va_P D kl [(h, .inr (6, [.ref rw, .ref tp, .ref nw, .ref ac, .ref im, .ref fo, .ref ak, .int 0])), (nw, .inr (3, [.int 0, .int 0, .int 0, .int 0, .int 0, .int 0, .int 0, .int 0, .ref w0, .ref w1, .ref w2, .ref w3, .ref w4, .ref w5, .ref w6, .ref w7]))] H := hP
  have hD : va_D A [(h, .inr (6, [.ref rw, .ref tp, .ref nw, .ref ac, .ref im, .ref fo, .ref ak, .int 0])), (nw, .inr (3, [.int 0, .int 0, .int 0, .int 0, .int 0, .int 0, .int 0, .int 0, .ref w0, .ref w1, .ref w2, .ref w3, .ref w4, .ref w5, .ref w6, .ref w7]))] := hD
  obtain rfl : r_1 = 0 := by first | exact hw_1 | exact hw_1.trans (by decide)
  refine lv_if_eq (tgt := 30) hx hb dX7_keepsAway_8 (by decide) (fun _ => ?_) (fun c9 => absurd (by decide) c9)
  refine lv_ldc (v := (-1000001)) hx hb hown (hts (.constant RX7 68 (-1000001)) (List.mem_of_getElem? (i := 2) rfl)) dX7_keepsAway_30 ?_
  exact wr_i (v := (-1000001)) hx hb hr hlocks hS () (by rfl) (hP.sub [] rfl) (hD.sub [] (by decide) rfl) dX7_keepsAway_32
set_option maxHeartbeats 4000000 in
set_option maxRecDepth 100000 in
theorem kx_bid (l : Launch) (D : va_G) (cI cB cQ : ClassId) (sz : Nat) (h : Nat) (rw : Nat) (tp : Nat) (nw : Nat) (ac : Nat) (im : Nat) (fo : Nat) (ak : Nat) (w0 : Nat) (w1 : Nat) (w2 : Nat) (w3 : Nat) (w4 : Nat) (w5 : Nat) (w6 : Nat) (w7 : Nat) (p0 : Int32) (p1 : Int32) (p2 : Int32) : mi l yX7_bid wsX7_bid ({ frames := 1, cells := 0, slots := 0, locals := 21 }) D cI cB cQ [.ref h, .int p0, .int p1, .int p2] sz [(h, .inr (6, [.ref rw, .ref tp, .ref nw, .ref ac, .ref im, .ref fo, .ref ak, .int 0])), (nw, .inr (3, [.int 0, .int 0, .int 0, .int 0, .int 0, .int 0, .int 0, .int 0, .ref w0, .ref w1, .ref w2, .ref w3, .ref w4, .ref w5, .ref w6, .ref w7]))] (fun (r : Int32) (_u : Unit) => r = (-1000001)) (fun _ => []) 0 0 := by
  refine wm_i (cc := cX7_bid) (maxL := 5) (ret := (some .int)) (by decide) rfl (Nat.le_of_ble_eq_true rfl) ?_
  intro p e s m below meth c A ls hx hb hr hml hown hts hlocks hin hP hK hD hN hA hl hS
  have hown : s.vm.findClass RX7 = some m.cls := hown
  have hl : lv_has ls 5 [(0, .ref h), (1, .int p0), (2, .int p1), (3, .int p2)] := hl
  change W p l e ({ frames := 1, cells := 0, slots := 0, locals := 21 }) s m ([.ref h, .int p0, .int p1, .int p2] : List Value).toArray below meth c s.heap [] 0 0 (MQ below (va_Qi (fun (r : Int32) (_u : Unit) => r = (-1000001)) (fun u t => wb D A ((fun _ => []) u) t) A) ([.ref h, .int p0, .int p1, .int p2] : List Value).toArray s 0 0 A) (F0 m 0 ls [])
  refine lv_aload_n hx hb dX7_bid_0 rfl (lv_at hl 0 rfl) ?_
  refine va_get (D := D) (ci := 6) (v := .ref nw) (C := RX7) (T := TX7) (N := 8) hx hb hts (fun _ h => List.mem_cons_of_mem _ (List.mem_append_left _ (List.mem_append_left _ (List.mem_append_right _ h)))) hown hK hP 0 rfl rfl 2 (by decide) (hts (.fieldLink RX7 26 "WinterWalk" "now" "LWinterWalk$Land;") (List.mem_of_getElem? (i := 1) rfl)) (fun _ h9 => h9) rfl dX7_bid_1 ?_
  refine lv_iload_n hx hb dX7_bid_4 rfl (lv_at hl 1 rfl) ?_
  have k_1 := (k_hasVillage l D cI cB cQ s.heap.size nw w0 w1 w2 w3 w4 w5 w6 w7 p0)
  refine wc_i (WC := [(nw, .inr (3, [.int 0, .int 0, .int 0, .int 0, .int 0, .int 0, .int 0, .int 0, .ref w0, .ref w1, .ref w2, .ref w3, .ref w4, .ref w5, .ref w6, .ref w7]))]) (WR := [(h, .inr (6, [.ref rw, .ref tp, .ref nw, .ref ac, .ref im, .ref fo, .ref ak, .int 0]))]) (va_runV (As := [.int p0]) (rest := []) ⟨hx, hb, hml, hown, hts⟩ k_1 (cwV 1 hts gX7_bid_X4_hasVillage rfl rfl rfl (by decide +kernel) ⟨Nat.le_of_ble_eq_true rfl, Nat.le_of_ble_eq_true rfl⟩) (wp_V hP hK hD hN [1] (by decide) rfl (ci := 3) rfl rfl) rfl rfl hl.1 rfl (lv_room (Nat.le_of_ble_eq_true rfl)) dX7_bid_5 ⟨Nat.le_of_ble_eq_true rfl, Nat.le_of_ble_eq_true rfl⟩) hP hD hS hA [1] [0] rfl rfl (by decide) (by decide) (fun r_1 u_1 H locs hw_1 hP hD hS => ?_)
  have hP : va_P D kl [(h, .inr (6, [.ref rw, .ref tp, .ref nw, .ref ac, .ref im, .ref fo, .ref ak, .int 0])), (nw, .inr (3, [.int 0, .int 0, .int 0, .int 0, .int 0, .int 0, .int 0, .int 0, .ref w0, .ref w1, .ref w2, .ref w3, .ref w4, .ref w5, .ref w6, .ref w7]))] H := hP
  have hD : va_D A [(h, .inr (6, [.ref rw, .ref tp, .ref nw, .ref ac, .ref im, .ref fo, .ref ak, .int 0])), (nw, .inr (3, [.int 0, .int 0, .int 0, .int 0, .int 0, .int 0, .int 0, .int 0, .ref w0, .ref w1, .ref w2, .ref w3, .ref w4, .ref w5, .ref w6, .ref w7]))] := hD
  obtain rfl : r_1 = 0 := by first | exact hw_1 | exact hw_1.trans (by decide)
  refine lv_if_eq (tgt := 30) hx hb dX7_bid_8 (by decide) (fun _ => ?_) (fun c9 => absurd (by decide) c9)
  refine lv_ldc (v := (-1000001)) hx hb hown (hts (.constant RX7 68 (-1000001)) (List.mem_of_getElem? (i := 2) rfl)) dX7_bid_30 ?_
  exact wr_i (v := (-1000001)) hx hb hr hlocks hS () (by rfl) (hP.sub [] rfl) (hD.sub [] (by decide) rfl) dX7_bid_32
set_option maxHeartbeats 4000000 in
set_option maxRecDepth 100000 in
theorem kx_rests (l : Launch) (D : va_G) (cI cB cQ : ClassId) (sz : Nat) (h : Nat) (rw : Nat) (tp : Nat) (nw : Nat) (ac : Nat) (im : Nat) (fo : Nat) (ak : Nat) (w0 : Nat) (w1 : Nat) (w2 : Nat) (w3 : Nat) (w4 : Nat) (w5 : Nat) (w6 : Nat) (w7 : Nat) (p0 : Int32) : mi l yX7_rests wsX7_rests ({ frames := 1, cells := 0, slots := 0, locals := 20 }) D cI cB cQ [.ref h, .int p0] sz [(h, .inr (6, [.ref rw, .ref tp, .ref nw, .ref ac, .ref im, .ref fo, .ref ak, .int 0])), (nw, .inr (3, [.int 0, .int 0, .int 0, .int 0, .int 0, .int 0, .int 0, .int 0, .ref w0, .ref w1, .ref w2, .ref w3, .ref w4, .ref w5, .ref w6, .ref w7]))] (fun (r : Int32) (_u : Unit) => r = (-1000002)) (fun _ => []) 0 0 := by
  refine wm_i (cc := cX7_rests) (maxL := 2) (ret := (some .int)) (by decide) rfl (Nat.le_of_ble_eq_true rfl) ?_
  intro p e s m below meth c A ls hx hb hr hml hown hts hlocks hin hP hK hD hN hA hl hS
  have hown : s.vm.findClass RX7 = some m.cls := hown
  have hl : lv_has ls 2 [(0, .ref h), (1, .int p0)] := hl
  change W p l e ({ frames := 1, cells := 0, slots := 0, locals := 20 }) s m ([.ref h, .int p0] : List Value).toArray below meth c s.heap [] 0 0 (MQ below (va_Qi (fun (r : Int32) (_u : Unit) => r = (-1000002)) (fun u t => wb D A ((fun _ => []) u) t) A) ([.ref h, .int p0] : List Value).toArray s 0 0 A) (F0 m 0 ls [])
  refine lv_aload_n hx hb dX7_rests_0 rfl (lv_at hl 0 rfl) ?_
  refine va_get (D := D) (ci := 6) (v := .ref nw) (C := RX7) (T := TX7) (N := 8) hx hb hts (fun _ h => List.mem_cons_of_mem _ (List.mem_append_left _ (List.mem_append_left _ (List.mem_append_right _ h)))) hown hK hP 0 rfl rfl 2 (by decide) (hts (.fieldLink RX7 26 "WinterWalk" "now" "LWinterWalk$Land;") (List.mem_of_getElem? (i := 1) rfl)) (fun _ h9 => h9) rfl dX7_rests_1 ?_
  have k_1 := (k_isNone l D cI cB cQ s.heap.size nw w0 w1 w2 w3 w4 w5 w6 w7)
  refine wc_i (WC := [(nw, .inr (3, [.int 0, .int 0, .int 0, .int 0, .int 0, .int 0, .int 0, .int 0, .ref w0, .ref w1, .ref w2, .ref w3, .ref w4, .ref w5, .ref w6, .ref w7]))]) (WR := [(h, .inr (6, [.ref rw, .ref tp, .ref nw, .ref ac, .ref im, .ref fo, .ref ak, .int 0]))]) (va_runV (As := []) (rest := []) ⟨hx, hb, hml, hown, hts⟩ k_1 (cwV 0 hts gX7_rests_X4_isNone rfl rfl rfl (by decide +kernel) ⟨Nat.le_of_ble_eq_true rfl, Nat.le_of_ble_eq_true rfl⟩) (wp_V hP hK hD hN [1] (by decide) rfl (ci := 3) rfl rfl) rfl rfl hl.1 rfl (lv_room (Nat.le_of_ble_eq_true rfl)) dX7_rests_4 ⟨Nat.le_of_ble_eq_true rfl, Nat.le_of_ble_eq_true rfl⟩) hP hD hS hA [1] [0] rfl rfl (by decide) (by decide) (fun r_1 u_1 H locs hw_1 hP hD hS => ?_)
  have hP : va_P D kl [(h, .inr (6, [.ref rw, .ref tp, .ref nw, .ref ac, .ref im, .ref fo, .ref ak, .int 0])), (nw, .inr (3, [.int 0, .int 0, .int 0, .int 0, .int 0, .int 0, .int 0, .int 0, .ref w0, .ref w1, .ref w2, .ref w3, .ref w4, .ref w5, .ref w6, .ref w7]))] H := hP
  have hD : va_D A [(h, .inr (6, [.ref rw, .ref tp, .ref nw, .ref ac, .ref im, .ref fo, .ref ak, .int 0])), (nw, .inr (3, [.int 0, .int 0, .int 0, .int 0, .int 0, .int 0, .int 0, .int 0, .ref w0, .ref w1, .ref w2, .ref w3, .ref w4, .ref w5, .ref w6, .ref w7]))] := hD
  obtain rfl : r_1 = 1 := by first | exact hw_1 | exact hw_1.trans (by decide)
  refine lv_if_eq (tgt := 13) hx hb dX7_rests_7 (by decide) (fun c9 => absurd c9 (by decide)) (fun _ => ?_)
  refine lv_ldc (v := (-1000002)) hx hb hown (hts (.constant RX7 129 (-1000002)) (List.mem_of_getElem? (i := 2) rfl)) dX7_rests_10 ?_
  exact wr_i (v := (-1000002)) hx hb hr hlocks hS () (by rfl) (hP.sub [] rfl) (hD.sub [] (by decide) rfl) dX7_rests_12
set_option maxHeartbeats 4000000 in
set_option maxRecDepth 100000 in
theorem kx_fits (l : Launch) (D : va_G) (cI cB cQ : ClassId) (sz : Nat) (h : Nat) (rw : Nat) (tp : Nat) (nw : Nat) (ac : Nat) (im : Nat) (fo : Nat) (ak : Nat) (w0 : Nat) (w1 : Nat) (w2 : Nat) (w3 : Nat) (w4 : Nat) (w5 : Nat) (w6 : Nat) (w7 : Nat) (p0 : Int32) (p1 : Int32) (p2 : Int32) (p3 : Int32) : mi l yX7_fits wsX7_fits ({ frames := 1, cells := 0, slots := 0, locals := 21 }) D cI cB cQ [.ref h, .int p0, .int p1, .int p2, .int p3] sz [(h, .inr (6, [.ref rw, .ref tp, .ref nw, .ref ac, .ref im, .ref fo, .ref ak, .int 0])), (nw, .inr (3, [.int 0, .int 0, .int 0, .int 0, .int 0, .int 0, .int 0, .int 0, .ref w0, .ref w1, .ref w2, .ref w3, .ref w4, .ref w5, .ref w6, .ref w7]))] (fun (r : Int32) (_u : Unit) => r = (-1000001)) (fun _ => []) 0 0 := by
  refine wm_i (cc := cX7_fits) (maxL := 8) (ret := (some .int)) (by decide) rfl (Nat.le_of_ble_eq_true rfl) ?_
  intro p e s m below meth c A ls hx hb hr hml hown hts hlocks hin hP hK hD hN hA hl hS
  have hown : s.vm.findClass RX7 = some m.cls := hown
  have hl : lv_has ls 8 [(0, .ref h), (1, .int p0), (2, .int p1), (3, .int p2), (4, .int p3)] := hl
  change W p l e ({ frames := 1, cells := 0, slots := 0, locals := 21 }) s m ([.ref h, .int p0, .int p1, .int p2, .int p3] : List Value).toArray below meth c s.heap [] 0 0 (MQ below (va_Qi (fun (r : Int32) (_u : Unit) => r = (-1000001)) (fun u t => wb D A ((fun _ => []) u) t) A) ([.ref h, .int p0, .int p1, .int p2, .int p3] : List Value).toArray s 0 0 A) (F0 m 0 ls [])
  refine lv_aload_n hx hb dX7_fits_0 rfl (lv_at hl 0 rfl) ?_
  refine va_get (D := D) (ci := 6) (v := .ref nw) (C := RX7) (T := TX7) (N := 8) hx hb hts (fun _ h => List.mem_cons_of_mem _ (List.mem_append_left _ (List.mem_append_left _ (List.mem_append_left _ (List.mem_append_right _ h))))) hown hK hP 0 rfl rfl 2 (by decide) (hts (.fieldLink RX7 26 "WinterWalk" "now" "LWinterWalk$Land;") (List.mem_of_getElem? (i := 1) rfl)) (fun _ h9 => h9) rfl dX7_fits_1 ?_
  refine lv_iload_n hx hb dX7_fits_4 rfl (lv_at hl 1 rfl) ?_
  have k_1 := (k_hasWalker l D cI cB cQ s.heap.size nw w0 w1 w2 w3 w4 w5 w6 w7 p0)
  refine wc_i (WC := [(nw, .inr (3, [.int 0, .int 0, .int 0, .int 0, .int 0, .int 0, .int 0, .int 0, .ref w0, .ref w1, .ref w2, .ref w3, .ref w4, .ref w5, .ref w6, .ref w7]))]) (WR := [(h, .inr (6, [.ref rw, .ref tp, .ref nw, .ref ac, .ref im, .ref fo, .ref ak, .int 0]))]) (va_runV (As := [.int p0]) (rest := []) ⟨hx, hb, hml, hown, hts⟩ k_1 (cwV 1 hts gX7_fits_X4_hasWalker rfl rfl rfl (by decide +kernel) ⟨Nat.le_of_ble_eq_true rfl, Nat.le_of_ble_eq_true rfl⟩) (wp_V hP hK hD hN [1] (by decide) rfl (ci := 3) rfl rfl) rfl rfl hl.1 rfl (lv_room (Nat.le_of_ble_eq_true rfl)) dX7_fits_5 ⟨Nat.le_of_ble_eq_true rfl, Nat.le_of_ble_eq_true rfl⟩) hP hD hS hA [1] [0] rfl rfl (by decide) (by decide) (fun r_1 u_1 H locs hw_1 hP hD hS => ?_)
  have hP : va_P D kl [(h, .inr (6, [.ref rw, .ref tp, .ref nw, .ref ac, .ref im, .ref fo, .ref ak, .int 0])), (nw, .inr (3, [.int 0, .int 0, .int 0, .int 0, .int 0, .int 0, .int 0, .int 0, .ref w0, .ref w1, .ref w2, .ref w3, .ref w4, .ref w5, .ref w6, .ref w7]))] H := hP
  have hD : va_D A [(h, .inr (6, [.ref rw, .ref tp, .ref nw, .ref ac, .ref im, .ref fo, .ref ak, .int 0])), (nw, .inr (3, [.int 0, .int 0, .int 0, .int 0, .int 0, .int 0, .int 0, .int 0, .ref w0, .ref w1, .ref w2, .ref w3, .ref w4, .ref w5, .ref w6, .ref w7]))] := hD
  obtain rfl : r_1 = 0 := by first | exact hw_1 | exact hw_1.trans (by decide)
  refine lv_if_eq (tgt := 29) hx hb dX7_fits_8 (by decide) (fun _ => ?_) (fun c9 => absurd (by decide) c9)
  refine lv_ldc (v := (-1000001)) hx hb hown (hts (.constant RX7 68 (-1000001)) (List.mem_of_getElem? (i := 2) rfl)) dX7_fits_29 ?_
  exact wr_i (v := (-1000001)) hx hb hr hlocks hS () (by rfl) (hP.sub [] rfl) (hD.sub [] (by decide) rfl) dX7_fits_31
set_option maxHeartbeats 4000000 in
set_option maxRecDepth 100000 in
theorem kx_round (l : Launch) (D : va_G) (cI cB cQ : ClassId) (sz : Nat) (h : Nat) (rw : Nat) (tp : Nat) (nw : Nat) (ac : Nat) (im : Nat) (fo : Nat) (ak : Nat) (w0 : Nat) (w1 : Nat) (w2 : Nat) (w3 : Nat) (w4 : Nat) (w5 : Nat) (w6 : Nat) (w7 : Nat) (p0 : Int32) : mi l yX7_round wsX7_round ({ frames := 1, cells := 0, slots := 0, locals := 21 }) D cI cB cQ [.ref h, .int p0] sz [(h, .inr (6, [.ref rw, .ref tp, .ref nw, .ref ac, .ref im, .ref fo, .ref ak, .int 0])), (nw, .inr (3, [.int 0, .int 0, .int 0, .int 0, .int 0, .int 0, .int 0, .int 0, .ref w0, .ref w1, .ref w2, .ref w3, .ref w4, .ref w5, .ref w6, .ref w7]))] (fun (r : Int32) (_u : Unit) => r = (-1000001)) (fun _ => []) 0 0 := by
  refine wm_i (cc := cX7_round) (maxL := 2) (ret := (some .int)) (by decide) rfl (Nat.le_of_ble_eq_true rfl) ?_
  intro p e s m below meth c A ls hx hb hr hml hown hts hlocks hin hP hK hD hN hA hl hS
  have hown : s.vm.findClass RX7 = some m.cls := hown
  have hl : lv_has ls 2 [(0, .ref h), (1, .int p0)] := hl
  change W p l e ({ frames := 1, cells := 0, slots := 0, locals := 21 }) s m ([.ref h, .int p0] : List Value).toArray below meth c s.heap [] 0 0 (MQ below (va_Qi (fun (r : Int32) (_u : Unit) => r = (-1000001)) (fun u t => wb D A ((fun _ => []) u) t) A) ([.ref h, .int p0] : List Value).toArray s 0 0 A) (F0 m 0 ls [])
  refine lv_aload_n hx hb dX7_round_0 rfl (lv_at hl 0 rfl) ?_
  refine va_get (D := D) (ci := 6) (v := .ref nw) (C := RX7) (T := TX7) (N := 8) hx hb hts (fun _ h => List.mem_cons_of_mem _ (List.mem_append_left _ (List.mem_append_left _ (List.mem_append_right _ h)))) hown hK hP 0 rfl rfl 2 (by decide) (hts (.fieldLink RX7 26 "WinterWalk" "now" "LWinterWalk$Land;") (List.mem_of_getElem? (i := 1) rfl)) (fun _ h9 => h9) rfl dX7_round_1 ?_
  refine lv_iload_n hx hb dX7_round_4 rfl (lv_at hl 1 rfl) ?_
  have k_1 := (k_hasWalker l D cI cB cQ s.heap.size nw w0 w1 w2 w3 w4 w5 w6 w7 p0)
  refine wc_i (WC := [(nw, .inr (3, [.int 0, .int 0, .int 0, .int 0, .int 0, .int 0, .int 0, .int 0, .ref w0, .ref w1, .ref w2, .ref w3, .ref w4, .ref w5, .ref w6, .ref w7]))]) (WR := [(h, .inr (6, [.ref rw, .ref tp, .ref nw, .ref ac, .ref im, .ref fo, .ref ak, .int 0]))]) (va_runV (As := [.int p0]) (rest := []) ⟨hx, hb, hml, hown, hts⟩ k_1 (cwV 1 hts gX7_round_X4_hasWalker rfl rfl rfl (by decide +kernel) ⟨Nat.le_of_ble_eq_true rfl, Nat.le_of_ble_eq_true rfl⟩) (wp_V hP hK hD hN [1] (by decide) rfl (ci := 3) rfl rfl) rfl rfl hl.1 rfl (lv_room (Nat.le_of_ble_eq_true rfl)) dX7_round_5 ⟨Nat.le_of_ble_eq_true rfl, Nat.le_of_ble_eq_true rfl⟩) hP hD hS hA [1] [0] rfl rfl (by decide) (by decide) (fun r_1 u_1 H locs hw_1 hP hD hS => ?_)
  have hP : va_P D kl [(h, .inr (6, [.ref rw, .ref tp, .ref nw, .ref ac, .ref im, .ref fo, .ref ak, .int 0])), (nw, .inr (3, [.int 0, .int 0, .int 0, .int 0, .int 0, .int 0, .int 0, .int 0, .ref w0, .ref w1, .ref w2, .ref w3, .ref w4, .ref w5, .ref w6, .ref w7]))] H := hP
  have hD : va_D A [(h, .inr (6, [.ref rw, .ref tp, .ref nw, .ref ac, .ref im, .ref fo, .ref ak, .int 0])), (nw, .inr (3, [.int 0, .int 0, .int 0, .int 0, .int 0, .int 0, .int 0, .int 0, .ref w0, .ref w1, .ref w2, .ref w3, .ref w4, .ref w5, .ref w6, .ref w7]))] := hD
  obtain rfl : r_1 = 0 := by first | exact hw_1 | exact hw_1.trans (by decide)
  refine lv_if_ne (tgt := 14) hx hb dX7_round_8 (by decide) (fun c9 => absurd (by decide) c9) (fun _ => ?_)
  refine lv_ldc (v := (-1000001)) hx hb hown (hts (.constant RX7 68 (-1000001)) (List.mem_of_getElem? (i := 2) rfl)) dX7_round_11 ?_
  exact wr_i (v := (-1000001)) hx hb hr hlocks hS () (by rfl) (hP.sub [] rfl) (hD.sub [] (by decide) rfl) dX7_round_13
set_option maxHeartbeats 4000000 in
set_option maxRecDepth 100000 in
theorem kx_meet (l : Launch) (D : va_G) (cI cB cQ : ClassId) (sz : Nat) (h : Nat) (rw : Nat) (tp : Nat) (nw : Nat) (ac : Nat) (im : Nat) (fo : Nat) (ak : Nat) (w0 : Nat) (w1 : Nat) (w2 : Nat) (w3 : Nat) (w4 : Nat) (w5 : Nat) (w6 : Nat) (w7 : Nat) (p0 : Int32) (p1 : Int32) : mi l yX7_meet wsX7_meet ({ frames := 1, cells := 0, slots := 0, locals := 20 }) D cI cB cQ [.ref h, .int p0, .int p1] sz [(h, .inr (6, [.ref rw, .ref tp, .ref nw, .ref ac, .ref im, .ref fo, .ref ak, .int 0])), (nw, .inr (3, [.int 0, .int 0, .int 0, .int 0, .int 0, .int 0, .int 0, .int 0, .ref w0, .ref w1, .ref w2, .ref w3, .ref w4, .ref w5, .ref w6, .ref w7]))] (fun (r : Int32) (_u : Unit) => r = (-1000002)) (fun _ => []) 0 0 := by
  refine wm_i (cc := cX7_meet) (maxL := 3) (ret := (some .int)) (by decide) rfl (Nat.le_of_ble_eq_true rfl) ?_
  intro p e s m below meth c A ls hx hb hr hml hown hts hlocks hin hP hK hD hN hA hl hS
  have hown : s.vm.findClass RX7 = some m.cls := hown
  have hl : lv_has ls 3 [(0, .ref h), (1, .int p0), (2, .int p1)] := hl
  change W p l e ({ frames := 1, cells := 0, slots := 0, locals := 20 }) s m ([.ref h, .int p0, .int p1] : List Value).toArray below meth c s.heap [] 0 0 (MQ below (va_Qi (fun (r : Int32) (_u : Unit) => r = (-1000002)) (fun u t => wb D A ((fun _ => []) u) t) A) ([.ref h, .int p0, .int p1] : List Value).toArray s 0 0 A) (F0 m 0 ls [])
  refine lv_aload_n hx hb dX7_meet_0 rfl (lv_at hl 0 rfl) ?_
  refine va_get (D := D) (ci := 6) (v := .ref nw) (C := RX7) (T := TX7) (N := 8) hx hb hts (fun _ h => List.mem_cons_of_mem _ (List.mem_append_left _ (List.mem_append_left _ (List.mem_append_right _ h)))) hown hK hP 0 rfl rfl 2 (by decide) (hts (.fieldLink RX7 26 "WinterWalk" "now" "LWinterWalk$Land;") (List.mem_of_getElem? (i := 1) rfl)) (fun _ h9 => h9) rfl dX7_meet_1 ?_
  have k_1 := (k_isNone l D cI cB cQ s.heap.size nw w0 w1 w2 w3 w4 w5 w6 w7)
  refine wc_i (WC := [(nw, .inr (3, [.int 0, .int 0, .int 0, .int 0, .int 0, .int 0, .int 0, .int 0, .ref w0, .ref w1, .ref w2, .ref w3, .ref w4, .ref w5, .ref w6, .ref w7]))]) (WR := [(h, .inr (6, [.ref rw, .ref tp, .ref nw, .ref ac, .ref im, .ref fo, .ref ak, .int 0]))]) (va_runV (As := []) (rest := []) ⟨hx, hb, hml, hown, hts⟩ k_1 (cwV 0 hts gX7_meet_X4_isNone rfl rfl rfl (by decide +kernel) ⟨Nat.le_of_ble_eq_true rfl, Nat.le_of_ble_eq_true rfl⟩) (wp_V hP hK hD hN [1] (by decide) rfl (ci := 3) rfl rfl) rfl rfl hl.1 rfl (lv_room (Nat.le_of_ble_eq_true rfl)) dX7_meet_4 ⟨Nat.le_of_ble_eq_true rfl, Nat.le_of_ble_eq_true rfl⟩) hP hD hS hA [1] [0] rfl rfl (by decide) (by decide) (fun r_1 u_1 H locs hw_1 hP hD hS => ?_)
  have hP : va_P D kl [(h, .inr (6, [.ref rw, .ref tp, .ref nw, .ref ac, .ref im, .ref fo, .ref ak, .int 0])), (nw, .inr (3, [.int 0, .int 0, .int 0, .int 0, .int 0, .int 0, .int 0, .int 0, .ref w0, .ref w1, .ref w2, .ref w3, .ref w4, .ref w5, .ref w6, .ref w7]))] H := hP
  have hD : va_D A [(h, .inr (6, [.ref rw, .ref tp, .ref nw, .ref ac, .ref im, .ref fo, .ref ak, .int 0])), (nw, .inr (3, [.int 0, .int 0, .int 0, .int 0, .int 0, .int 0, .int 0, .int 0, .ref w0, .ref w1, .ref w2, .ref w3, .ref w4, .ref w5, .ref w6, .ref w7]))] := hD
  obtain rfl : r_1 = 1 := by first | exact hw_1 | exact hw_1.trans (by decide)
  refine lv_if_eq (tgt := 13) hx hb dX7_meet_7 (by decide) (fun c9 => absurd c9 (by decide)) (fun _ => ?_)
  refine lv_ldc (v := (-1000002)) hx hb hown (hts (.constant RX7 129 (-1000002)) (List.mem_of_getElem? (i := 2) rfl)) dX7_meet_10 ?_
  exact wr_i (v := (-1000002)) hx hb hr hlocks hS () (by rfl) (hP.sub [] rfl) (hD.sub [] (by decide) rfl) dX7_meet_12
set_option maxHeartbeats 4000000 in
set_option maxRecDepth 100000 in
theorem kx_slept (l : Launch) (D : va_G) (cI cB cQ : ClassId) (sz : Nat) (h : Nat) (rw : Nat) (tp : Nat) (nw : Nat) (ac : Nat) (im : Nat) (fo : Nat) (ak : Nat) (w0 : Nat) (w1 : Nat) (w2 : Nat) (w3 : Nat) (w4 : Nat) (w5 : Nat) (w6 : Nat) (w7 : Nat) (p0 : Int32) (p1 : Int32) (p2 : Int32) (p3 : Int32) (p4 : Int32) : mi l yX7_slept wsX7_slept ({ frames := 1, cells := 0, slots := 0, locals := 21 }) D cI cB cQ [.ref h, .int p0, .int p1, .int p2, .int p3, .int p4] sz [(h, .inr (6, [.ref rw, .ref tp, .ref nw, .ref ac, .ref im, .ref fo, .ref ak, .int 0])), (nw, .inr (3, [.int 0, .int 0, .int 0, .int 0, .int 0, .int 0, .int 0, .int 0, .ref w0, .ref w1, .ref w2, .ref w3, .ref w4, .ref w5, .ref w6, .ref w7]))] (fun (r : Int32) (_u : Unit) => r = (-1000001)) (fun _ => []) 0 0 := by
  refine wm_i (cc := cX7_slept) (maxL := 10) (ret := (some .int)) (by decide) rfl (Nat.le_of_ble_eq_true rfl) ?_
  intro p e s m below meth c A ls hx hb hr hml hown hts hlocks hin hP hK hD hN hA hl hS
  have hown : s.vm.findClass RX7 = some m.cls := hown
  have hl : lv_has ls 10 [(0, .ref h), (1, .int p0), (2, .int p1), (3, .int p2), (4, .int p3), (5, .int p4)] := hl
  change W p l e ({ frames := 1, cells := 0, slots := 0, locals := 21 }) s m ([.ref h, .int p0, .int p1, .int p2, .int p3, .int p4] : List Value).toArray below meth c s.heap [] 0 0 (MQ below (va_Qi (fun (r : Int32) (_u : Unit) => r = (-1000001)) (fun u t => wb D A ((fun _ => []) u) t) A) ([.ref h, .int p0, .int p1, .int p2, .int p3, .int p4] : List Value).toArray s 0 0 A) (F0 m 0 ls [])
  refine lv_aload_n hx hb dX7_slept_0 rfl (lv_at hl 0 rfl) ?_
  refine va_get (D := D) (ci := 6) (v := .ref nw) (C := RX7) (T := TX7) (N := 8) hx hb hts (fun _ h => List.mem_cons_of_mem _ (List.mem_append_left _ (List.mem_append_left _ (List.mem_append_left _ (List.mem_append_right _ h))))) hown hK hP 0 rfl rfl 2 (by decide) (hts (.fieldLink RX7 26 "WinterWalk" "now" "LWinterWalk$Land;") (List.mem_of_getElem? (i := 1) rfl)) (fun _ h9 => h9) rfl dX7_slept_1 ?_
  refine lv_iload_n hx hb dX7_slept_4 rfl (lv_at hl 1 rfl) ?_
  have k_1 := (k_hasWalker l D cI cB cQ s.heap.size nw w0 w1 w2 w3 w4 w5 w6 w7 p0)
  refine wc_i (WC := [(nw, .inr (3, [.int 0, .int 0, .int 0, .int 0, .int 0, .int 0, .int 0, .int 0, .ref w0, .ref w1, .ref w2, .ref w3, .ref w4, .ref w5, .ref w6, .ref w7]))]) (WR := [(h, .inr (6, [.ref rw, .ref tp, .ref nw, .ref ac, .ref im, .ref fo, .ref ak, .int 0]))]) (va_runV (As := [.int p0]) (rest := []) ⟨hx, hb, hml, hown, hts⟩ k_1 (cwV 1 hts gX7_slept_X4_hasWalker rfl rfl rfl (by decide +kernel) ⟨Nat.le_of_ble_eq_true rfl, Nat.le_of_ble_eq_true rfl⟩) (wp_V hP hK hD hN [1] (by decide) rfl (ci := 3) rfl rfl) rfl rfl hl.1 rfl (lv_room (Nat.le_of_ble_eq_true rfl)) dX7_slept_5 ⟨Nat.le_of_ble_eq_true rfl, Nat.le_of_ble_eq_true rfl⟩) hP hD hS hA [1] [0] rfl rfl (by decide) (by decide) (fun r_1 u_1 H locs hw_1 hP hD hS => ?_)
  have hP : va_P D kl [(h, .inr (6, [.ref rw, .ref tp, .ref nw, .ref ac, .ref im, .ref fo, .ref ak, .int 0])), (nw, .inr (3, [.int 0, .int 0, .int 0, .int 0, .int 0, .int 0, .int 0, .int 0, .ref w0, .ref w1, .ref w2, .ref w3, .ref w4, .ref w5, .ref w6, .ref w7]))] H := hP
  have hD : va_D A [(h, .inr (6, [.ref rw, .ref tp, .ref nw, .ref ac, .ref im, .ref fo, .ref ak, .int 0])), (nw, .inr (3, [.int 0, .int 0, .int 0, .int 0, .int 0, .int 0, .int 0, .int 0, .ref w0, .ref w1, .ref w2, .ref w3, .ref w4, .ref w5, .ref w6, .ref w7]))] := hD
  obtain rfl : r_1 = 0 := by first | exact hw_1 | exact hw_1.trans (by decide)
  refine lv_if_eq (tgt := 39) hx hb dX7_slept_8 (by decide) (fun _ => ?_) (fun c9 => absurd (by decide) c9)
  refine lv_ldc (v := (-1000001)) hx hb hown (hts (.constant RX7 68 (-1000001)) (List.mem_of_getElem? (i := 2) rfl)) dX7_slept_39 ?_
  exact wr_i (v := (-1000001)) hx hb hr hlocks hS () (by rfl) (hP.sub [] rfl) (hD.sub [] (by decide) rfl) dX7_slept_41
set_option maxHeartbeats 4000000 in
set_option maxRecDepth 100000 in
theorem kx_late (l : Launch) (D : va_G) (cI cB cQ : ClassId) (sz : Nat) (h : Nat) (rw : Nat) (tp : Nat) (nw : Nat) (ac : Nat) (im : Nat) (fo : Nat) (ak : Nat) (w0 : Nat) (w1 : Nat) (w2 : Nat) (w3 : Nat) (w4 : Nat) (w5 : Nat) (w6 : Nat) (w7 : Nat) (p0 : Int32) (p1 : Int32) (p2 : Int32) (p3 : Int32) (p4 : Int32) : ml l yX7_late wsX7_late ({ frames := 1, cells := 0, slots := 0, locals := 21 }) D cI cB cQ [.ref h, .int p0, .int p1, .int p2, .int p3, .int p4] sz [(h, .inr (6, [.ref rw, .ref tp, .ref nw, .ref ac, .ref im, .ref fo, .ref ak, .int 0])), (nw, .inr (3, [.int 0, .int 0, .int 0, .int 0, .int 0, .int 0, .int 0, .int 0, .ref w0, .ref w1, .ref w2, .ref w3, .ref w4, .ref w5, .ref w6, .ref w7]))] (fun (r : Int64) (_u : Unit) => r = (-1000001)) (fun _ => []) 0 0 := by
  refine wm_l (cc := cX7_late) (maxL := 12) (ret := (some .long)) (by decide) rfl (Nat.le_of_ble_eq_true rfl) ?_
  intro p e s m below meth c A ls hx hb hr hml hown hts hlocks hin hP hK hD hN hA hl hS
  have hown : s.vm.findClass RX7 = some m.cls := hown
  have hl : lv_has ls 12 [(0, .ref h), (1, .int p0), (2, .int p1), (3, .int p2), (4, .int p3), (5, .int p4)] := hl
  change W p l e ({ frames := 1, cells := 0, slots := 0, locals := 21 }) s m ([.ref h, .int p0, .int p1, .int p2, .int p3, .int p4] : List Value).toArray below meth c s.heap [] 0 0 (MQ below (va_Ql (fun (r : Int64) (_u : Unit) => r = (-1000001)) (fun u t => wb D A ((fun _ => []) u) t) A) ([.ref h, .int p0, .int p1, .int p2, .int p3, .int p4] : List Value).toArray s 0 0 A) (F0 m 0 ls [])
  refine lv_aload_n hx hb dX7_late_0 rfl (lv_at hl 0 rfl) ?_
  refine va_get (D := D) (ci := 6) (v := .ref nw) (C := RX7) (T := TX7) (N := 8) hx hb hts (fun _ h => List.mem_cons_of_mem _ (List.mem_append_left _ (List.mem_append_left _ (List.mem_append_right _ h)))) hown hK hP 0 rfl rfl 2 (by decide) (hts (.fieldLink RX7 26 "WinterWalk" "now" "LWinterWalk$Land;") (List.mem_of_getElem? (i := 1) rfl)) (fun _ h9 => h9) rfl dX7_late_1 ?_
  refine lv_iload_n hx hb dX7_late_4 rfl (lv_at hl 1 rfl) ?_
  have k_1 := (k_hasWalker l D cI cB cQ s.heap.size nw w0 w1 w2 w3 w4 w5 w6 w7 p0)
  refine wc_i (WC := [(nw, .inr (3, [.int 0, .int 0, .int 0, .int 0, .int 0, .int 0, .int 0, .int 0, .ref w0, .ref w1, .ref w2, .ref w3, .ref w4, .ref w5, .ref w6, .ref w7]))]) (WR := [(h, .inr (6, [.ref rw, .ref tp, .ref nw, .ref ac, .ref im, .ref fo, .ref ak, .int 0]))]) (va_runV (As := [.int p0]) (rest := []) ⟨hx, hb, hml, hown, hts⟩ k_1 (cwV 1 hts gX7_late_X4_hasWalker rfl rfl rfl (by decide +kernel) ⟨Nat.le_of_ble_eq_true rfl, Nat.le_of_ble_eq_true rfl⟩) (wp_V hP hK hD hN [1] (by decide) rfl (ci := 3) rfl rfl) rfl rfl hl.1 rfl (lv_room (Nat.le_of_ble_eq_true rfl)) dX7_late_5 ⟨Nat.le_of_ble_eq_true rfl, Nat.le_of_ble_eq_true rfl⟩) hP hD hS hA [1] [0] rfl rfl (by decide) (by decide) (fun r_1 u_1 H locs hw_1 hP hD hS => ?_)
  have hP : va_P D kl [(h, .inr (6, [.ref rw, .ref tp, .ref nw, .ref ac, .ref im, .ref fo, .ref ak, .int 0])), (nw, .inr (3, [.int 0, .int 0, .int 0, .int 0, .int 0, .int 0, .int 0, .int 0, .ref w0, .ref w1, .ref w2, .ref w3, .ref w4, .ref w5, .ref w6, .ref w7]))] H := hP
  have hD : va_D A [(h, .inr (6, [.ref rw, .ref tp, .ref nw, .ref ac, .ref im, .ref fo, .ref ak, .int 0])), (nw, .inr (3, [.int 0, .int 0, .int 0, .int 0, .int 0, .int 0, .int 0, .int 0, .ref w0, .ref w1, .ref w2, .ref w3, .ref w4, .ref w5, .ref w6, .ref w7]))] := hD
  obtain rfl : r_1 = 0 := by first | exact hw_1 | exact hw_1.trans (by decide)
  refine lv_if_eq (tgt := 53) hx hb dX7_late_8 (by decide) (fun _ => ?_) (fun c9 => absurd (by decide) c9)
  refine lv_ldc2 (v := (-1000001)) hx hb hown (hts (.constantLong RX7 250 (-1000001)) (List.mem_of_getElem? (i := 2) rfl)) dX7_late_53 ?_
  exact wr_l (v := (-1000001)) hx hb hr hlocks hS () (by rfl) (hP.sub [] rfl) (hD.sub [] (by decide) rfl) dX7_late_56
set_option maxHeartbeats 4000000 in
set_option maxRecDepth 100000 in
theorem kx_year (l : Launch) (D : va_G) (cI cB cQ : ClassId) (sz : Nat) (h : Nat) (rw : Nat) (tp : Nat) (nw : Nat) (ac : Nat) (im : Nat) (fo : Nat) (ak : Nat) (w0 : Nat) (w1 : Nat) (w2 : Nat) (w3 : Nat) (w4 : Nat) (w5 : Nat) (w6 : Nat) (w7 : Nat) (p0 : Int32) (p1 : Int32) (p2 : Int32) : mi l yX7_year wsX7_year ({ frames := 1, cells := 0, slots := 0, locals := 20 }) D cI cB cQ [.ref h, .int p0, .int p1, .int p2] sz [(h, .inr (6, [.ref rw, .ref tp, .ref nw, .ref ac, .ref im, .ref fo, .ref ak, .int 0])), (nw, .inr (3, [.int 0, .int 0, .int 0, .int 0, .int 0, .int 0, .int 0, .int 0, .ref w0, .ref w1, .ref w2, .ref w3, .ref w4, .ref w5, .ref w6, .ref w7]))] (fun (r : Int32) (_u : Unit) => r = (-1000002)) (fun _ => []) 0 0 := by
  refine wm_i (cc := cX7_year) (maxL := 5) (ret := (some .int)) (by decide) rfl (Nat.le_of_ble_eq_true rfl) ?_
  intro p e s m below meth c A ls hx hb hr hml hown hts hlocks hin hP hK hD hN hA hl hS
  have hown : s.vm.findClass RX7 = some m.cls := hown
  have hl : lv_has ls 5 [(0, .ref h), (1, .int p0), (2, .int p1), (3, .int p2)] := hl
  change W p l e ({ frames := 1, cells := 0, slots := 0, locals := 20 }) s m ([.ref h, .int p0, .int p1, .int p2] : List Value).toArray below meth c s.heap [] 0 0 (MQ below (va_Qi (fun (r : Int32) (_u : Unit) => r = (-1000002)) (fun u t => wb D A ((fun _ => []) u) t) A) ([.ref h, .int p0, .int p1, .int p2] : List Value).toArray s 0 0 A) (F0 m 0 ls [])
  refine lv_aload_n hx hb dX7_year_0 rfl (lv_at hl 0 rfl) ?_
  refine va_get (D := D) (ci := 6) (v := .ref nw) (C := RX7) (T := TX7) (N := 8) hx hb hts (fun _ h => List.mem_cons_of_mem _ (List.mem_append_left _ (List.mem_append_left _ (List.mem_append_right _ h)))) hown hK hP 0 rfl rfl 2 (by decide) (hts (.fieldLink RX7 26 "WinterWalk" "now" "LWinterWalk$Land;") (List.mem_of_getElem? (i := 1) rfl)) (fun _ h9 => h9) rfl dX7_year_1 ?_
  have k_1 := (k_isNone l D cI cB cQ s.heap.size nw w0 w1 w2 w3 w4 w5 w6 w7)
  refine wc_i (WC := [(nw, .inr (3, [.int 0, .int 0, .int 0, .int 0, .int 0, .int 0, .int 0, .int 0, .ref w0, .ref w1, .ref w2, .ref w3, .ref w4, .ref w5, .ref w6, .ref w7]))]) (WR := [(h, .inr (6, [.ref rw, .ref tp, .ref nw, .ref ac, .ref im, .ref fo, .ref ak, .int 0]))]) (va_runV (As := []) (rest := []) ⟨hx, hb, hml, hown, hts⟩ k_1 (cwV 0 hts gX7_year_X4_isNone rfl rfl rfl (by decide +kernel) ⟨Nat.le_of_ble_eq_true rfl, Nat.le_of_ble_eq_true rfl⟩) (wp_V hP hK hD hN [1] (by decide) rfl (ci := 3) rfl rfl) rfl rfl hl.1 rfl (lv_room (Nat.le_of_ble_eq_true rfl)) dX7_year_4 ⟨Nat.le_of_ble_eq_true rfl, Nat.le_of_ble_eq_true rfl⟩) hP hD hS hA [1] [0] rfl rfl (by decide) (by decide) (fun r_1 u_1 H locs hw_1 hP hD hS => ?_)
  have hP : va_P D kl [(h, .inr (6, [.ref rw, .ref tp, .ref nw, .ref ac, .ref im, .ref fo, .ref ak, .int 0])), (nw, .inr (3, [.int 0, .int 0, .int 0, .int 0, .int 0, .int 0, .int 0, .int 0, .ref w0, .ref w1, .ref w2, .ref w3, .ref w4, .ref w5, .ref w6, .ref w7]))] H := hP
  have hD : va_D A [(h, .inr (6, [.ref rw, .ref tp, .ref nw, .ref ac, .ref im, .ref fo, .ref ak, .int 0])), (nw, .inr (3, [.int 0, .int 0, .int 0, .int 0, .int 0, .int 0, .int 0, .int 0, .ref w0, .ref w1, .ref w2, .ref w3, .ref w4, .ref w5, .ref w6, .ref w7]))] := hD
  obtain rfl : r_1 = 1 := by first | exact hw_1 | exact hw_1.trans (by decide)
  refine lv_if_eq (tgt := 13) hx hb dX7_year_7 (by decide) (fun c9 => absurd c9 (by decide)) (fun _ => ?_)
  refine lv_ldc (v := (-1000002)) hx hb hown (hts (.constant RX7 129 (-1000002)) (List.mem_of_getElem? (i := 2) rfl)) dX7_year_10 ?_
  exact wr_i (v := (-1000002)) hx hb hr hlocks hS () (by rfl) (hP.sub [] rfl) (hD.sub [] (by decide) rfl) dX7_year_12
set_option maxHeartbeats 4000000 in
set_option maxRecDepth 100000 in
theorem kx_image (l : Launch) (D : va_G) (cI cB cQ : ClassId) (sz : Nat) (h : Nat) (rw : Nat) (tp : Nat) (nw : Nat) (ac : Nat) (im : Nat) (fo : Nat) (ak : Nat) (w0 : Nat) (w1 : Nat) (w2 : Nat) (w3 : Nat) (w4 : Nat) (w5 : Nat) (w6 : Nat) (w7 : Nat) (p0 : Int32) : mi l yX7_image wsX7_image ({ frames := 1, cells := 0, slots := 0, locals := 22 }) D cI cB cQ [.ref h, .int p0] sz [(h, .inr (6, [.ref rw, .ref tp, .ref nw, .ref ac, .ref im, .ref fo, .ref ak, .int 0])), (nw, .inr (3, [.int 0, .int 0, .int 0, .int 0, .int 0, .int 0, .int 0, .int 0, .ref w0, .ref w1, .ref w2, .ref w3, .ref w4, .ref w5, .ref w6, .ref w7]))] (fun (r : Int32) (_u : Unit) => r = sp_image p0) (fun _ => []) 0 0 := by
  refine wm_i (cc := cX7_image) (maxL := 2) (ret := (some .int)) (by decide) rfl (Nat.le_of_ble_eq_true rfl) ?_
  intro p e s m below meth c A ls hx hb hr hml hown hts hlocks hin hP hK hD hN hA hl hS
  have hown : s.vm.findClass RX7 = some m.cls := hown
  have hl : lv_has ls 2 [(0, .ref h), (1, .int p0)] := hl
  change W p l e ({ frames := 1, cells := 0, slots := 0, locals := 22 }) s m ([.ref h, .int p0] : List Value).toArray below meth c s.heap [] 0 0 (MQ below (va_Qi (fun (r : Int32) (_u : Unit) => r = sp_image p0) (fun u t => wb D A ((fun _ => []) u) t) A) ([.ref h, .int p0] : List Value).toArray s 0 0 A) (F0 m 0 ls [])
  refine lv_iconst (v := 0) hx hb dX7_image_0 (by decide) ?_
  refine lv_iload_n hx hb dX7_image_1 rfl (lv_at hl 1 rfl) ?_
  refine lv_iconst (v := 1) hx hb dX7_image_2 (by decide) ?_
  have k_1 := (k_isFrom l D cI cB cQ s.heap.size 0 p0 1)
  refine wc_i (WC := []) (WR := [(h, .inr (6, [.ref rw, .ref tp, .ref nw, .ref ac, .ref im, .ref fo, .ref ak, .int 0])), (nw, .inr (3, [.int 0, .int 0, .int 0, .int 0, .int 0, .int 0, .int 0, .int 0, .ref w0, .ref w1, .ref w2, .ref w3, .ref w4, .ref w5, .ref w6, .ref w7]))]) (va_runS (As := [.int 0, .int p0, .int 1]) (rest := []) ⟨hx, hb, hml, hown, hts⟩ k_1 (va_cwS 3 hts gX7_image_X7_isFrom rfl rfl rfl (by decide +kernel) ⟨Nat.le_of_ble_eq_true rfl, Nat.le_of_ble_eq_true rfl⟩) (wp_S hP hK hD hN [] (by decide) rfl) rfl rfl hl.1 rfl (lv_room (Nat.le_of_ble_eq_true rfl)) dX7_image_3 ⟨Nat.le_of_ble_eq_true rfl, Nat.le_of_ble_eq_true rfl⟩) hP hD hS hA [] [0, 1] rfl rfl (by decide) (by decide) (fun r_1 u_1 H locs hw_1 hP hD hS => ?_)
  have hP : va_P D kl [(h, .inr (6, [.ref rw, .ref tp, .ref nw, .ref ac, .ref im, .ref fo, .ref ak, .int 0])), (nw, .inr (3, [.int 0, .int 0, .int 0, .int 0, .int 0, .int 0, .int 0, .int 0, .ref w0, .ref w1, .ref w2, .ref w3, .ref w4, .ref w5, .ref w6, .ref w7]))] H := hP
  have hD : va_D A [(h, .inr (6, [.ref rw, .ref tp, .ref nw, .ref ac, .ref im, .ref fo, .ref ak, .int 0])), (nw, .inr (3, [.int 0, .int 0, .int 0, .int 0, .int 0, .int 0, .int 0, .int 0, .ref w0, .ref w1, .ref w2, .ref w3, .ref w4, .ref w5, .ref w6, .ref w7]))] := hD
  rcases hw_1 with ⟨e_1, f_1⟩ | ⟨e_1, f_1⟩
  · subst e_1
    have f_1 : 0 ≤ p0.toInt ∧ p0.toInt ≤ 1 := f_1
    refine lv_if_ne (tgt := 12) hx hb dX7_image_6 (by decide) (fun _ => ?_) (fun c9 => absurd c9 (by decide))
    refine lv_aload_n hx hb dX7_image_12 rfl (lv_at hl 0 rfl) ?_
    refine va_get (D := D) (ci := 6) (v := .ref nw) (C := RX7) (T := TX7) (N := 8) hx hb hts (fun _ h => List.mem_cons_of_mem _ (List.mem_append_left _ (List.mem_append_right _ h))) hown hK hP 0 rfl rfl 2 (by decide) (hts (.fieldLink RX7 26 "WinterWalk" "now" "LWinterWalk$Land;") (List.mem_of_getElem? (i := 2) rfl)) (fun _ h9 => h9) rfl dX7_image_13 ?_
    have k_2 := (k_isNone l D cI cB cQ H.size nw w0 w1 w2 w3 w4 w5 w6 w7)
    refine wc_i (WC := [(nw, .inr (3, [.int 0, .int 0, .int 0, .int 0, .int 0, .int 0, .int 0, .int 0, .ref w0, .ref w1, .ref w2, .ref w3, .ref w4, .ref w5, .ref w6, .ref w7]))]) (WR := [(h, .inr (6, [.ref rw, .ref tp, .ref nw, .ref ac, .ref im, .ref fo, .ref ak, .int 0]))]) (va_runV (As := []) (rest := []) ⟨hx, hb, hml, hown, hts⟩ k_2 (cwV 0 hts gX7_image_X4_isNone rfl rfl rfl (by decide +kernel) ⟨Nat.le_of_ble_eq_true rfl, Nat.le_of_ble_eq_true rfl⟩) (wp_V hP hK hD hN [1] (by decide) rfl (ci := 3) rfl rfl) rfl rfl hl.1 rfl (lv_room (Nat.le_of_ble_eq_true rfl)) dX7_image_16 ⟨Nat.le_of_ble_eq_true rfl, Nat.le_of_ble_eq_true rfl⟩) hP hD hS hA [1] [0] rfl rfl (by decide) (by decide) (fun r_2 u_2 H locs hw_2 hP hD hS => ?_)
    have hP : va_P D kl [(h, .inr (6, [.ref rw, .ref tp, .ref nw, .ref ac, .ref im, .ref fo, .ref ak, .int 0])), (nw, .inr (3, [.int 0, .int 0, .int 0, .int 0, .int 0, .int 0, .int 0, .int 0, .ref w0, .ref w1, .ref w2, .ref w3, .ref w4, .ref w5, .ref w6, .ref w7]))] H := hP
    have hD : va_D A [(h, .inr (6, [.ref rw, .ref tp, .ref nw, .ref ac, .ref im, .ref fo, .ref ak, .int 0])), (nw, .inr (3, [.int 0, .int 0, .int 0, .int 0, .int 0, .int 0, .int 0, .int 0, .ref w0, .ref w1, .ref w2, .ref w3, .ref w4, .ref w5, .ref w6, .ref w7]))] := hD
    obtain rfl : r_2 = 1 := by first | exact hw_2 | exact hw_2.trans (by decide)
    refine lv_if_eq (tgt := 25) hx hb dX7_image_19 (by decide) (fun c9 => absurd c9 (by decide)) (fun _ => ?_)
    refine lv_ldc (v := (-1000002)) hx hb hown (hts (.constant RX7 129 (-1000002)) (List.mem_of_getElem? (i := 3) rfl)) dX7_image_22 ?_
    exact wr_i (v := (-1000002)) hx hb hr hlocks hS () (by unfold sp_image; (repeat' split) <;> first | rfl | (exfalso; omega)) (hP.sub [] rfl) (hD.sub [] (by decide) rfl) dX7_image_24
  · subst e_1
    have f_1 : ¬ (0 ≤ p0.toInt ∧ p0.toInt ≤ 1) := f_1
    refine lv_if_ne (tgt := 12) hx hb dX7_image_6 (by decide) (fun c9 => absurd (by decide) c9) (fun _ => ?_)
    refine lv_ldc (v := (-1000001)) hx hb hown (hts (.constant RX7 68 (-1000001)) (List.mem_of_getElem? (i := 1) rfl)) dX7_image_9 ?_
    exact wr_i (v := (-1000001)) hx hb hr hlocks hS () (by unfold sp_image; (repeat' split) <;> first | rfl | (exfalso; omega)) (hP.sub [] rfl) (hD.sub [] (by decide) rfl) dX7_image_11
set_option maxHeartbeats 4000000 in
set_option maxRecDepth 100000 in
theorem kx_restore (l : Launch) (D : va_G) (cI cB cQ : ClassId) (sz : Nat) (h : Nat) (rw : Nat) (tp : Nat) (nw : Nat) (ac : Nat) (im : Nat) (fo : Nat) (ak : Nat) (p0 : Int32) : mi l yX7_restore wsX7_restore ({ frames := 1, cells := 0, slots := 0, locals := 22 }) D cI cB cQ [.ref h, .int p0] sz [(h, .inr (6, [.ref rw, .ref tp, .ref nw, .ref ac, .ref im, .ref fo, .ref ak, .int 0])), (im, .inl (cQ, 2, .inr (.inr (.inr (.inr (fun _ => none))))))] (fun (r : Int32) (_u : Unit) => r = sp_image p0) (fun _ => []) 0 0 := by
  refine wm_i (cc := cX7_restore) (maxL := 2) (ret := (some .int)) (by decide) rfl (Nat.le_of_ble_eq_true rfl) ?_
  intro p e s m below meth c A ls hx hb hr hml hown hts hlocks hin hP hK hD hN hA hl hS
  have hown : s.vm.findClass RX7 = some m.cls := hown
  have hl : lv_has ls 2 [(0, .ref h), (1, .int p0)] := hl
  change W p l e ({ frames := 1, cells := 0, slots := 0, locals := 22 }) s m ([.ref h, .int p0] : List Value).toArray below meth c s.heap [] 0 0 (MQ below (va_Qi (fun (r : Int32) (_u : Unit) => r = sp_image p0) (fun u t => wb D A ((fun _ => []) u) t) A) ([.ref h, .int p0] : List Value).toArray s 0 0 A) (F0 m 0 ls [])
  refine lv_iconst (v := 0) hx hb dX7_restore_0 (by decide) ?_
  refine lv_iload_n hx hb dX7_restore_1 rfl (lv_at hl 1 rfl) ?_
  refine lv_iconst (v := 1) hx hb dX7_restore_2 (by decide) ?_
  have k_1 := (k_isFrom l D cI cB cQ s.heap.size 0 p0 1)
  refine wc_i (WC := []) (WR := [(h, .inr (6, [.ref rw, .ref tp, .ref nw, .ref ac, .ref im, .ref fo, .ref ak, .int 0])), (im, .inl (cQ, 2, .inr (.inr (.inr (.inr (fun _ => none))))))]) (va_runS (As := [.int 0, .int p0, .int 1]) (rest := []) ⟨hx, hb, hml, hown, hts⟩ k_1 (va_cwS 3 hts gX7_restore_X7_isFrom rfl rfl rfl (by decide +kernel) ⟨Nat.le_of_ble_eq_true rfl, Nat.le_of_ble_eq_true rfl⟩) (wp_S hP hK hD hN [] (by decide) rfl) rfl rfl hl.1 rfl (lv_room (Nat.le_of_ble_eq_true rfl)) dX7_restore_3 ⟨Nat.le_of_ble_eq_true rfl, Nat.le_of_ble_eq_true rfl⟩) hP hD hS hA [] [0, 1] rfl rfl (by decide) (by decide) (fun r_1 u_1 H locs hw_1 hP hD hS => ?_)
  have hP : va_P D kl [(h, .inr (6, [.ref rw, .ref tp, .ref nw, .ref ac, .ref im, .ref fo, .ref ak, .int 0])), (im, .inl (cQ, 2, .inr (.inr (.inr (.inr (fun _ => none))))))] H := hP
  have hD : va_D A [(h, .inr (6, [.ref rw, .ref tp, .ref nw, .ref ac, .ref im, .ref fo, .ref ak, .int 0])), (im, .inl (cQ, 2, .inr (.inr (.inr (.inr (fun _ => none))))))] := hD
  rcases hw_1 with ⟨e_1, f_1⟩ | ⟨e_1, f_1⟩
  · subst e_1
    have f_1 : 0 ≤ p0.toInt ∧ p0.toInt ≤ 1 := f_1
    refine lv_if_ne (tgt := 12) hx hb dX7_restore_6 (by decide) (fun _ => ?_) (fun c9 => absurd c9 (by decide))
    refine lv_aload_n hx hb dX7_restore_12 rfl (lv_at hl 0 rfl) ?_
    refine va_get (D := D) (ci := 6) (v := .ref im) (C := RX7) (T := TX7) (N := 8) hx hb hts (fun _ h => List.mem_cons_of_mem _ (List.mem_append_left _ (List.mem_append_left _ (List.mem_append_right _ h)))) hown hK hP 0 rfl rfl 4 (by decide) (hts (.fieldLink RX7 37 "WinterWalk" "images" "[LWinterWalk$Land;") (List.mem_of_getElem? (i := 2) rfl)) (fun _ h9 => h9) rfl dX7_restore_13 ?_
    refine lv_iload_n hx hb dX7_restore_16 rfl (lv_at hl 1 rfl) ?_
    refine va_aldq hx hb hK hP 1 2 rfl rfl (zi_in (by omega) (by omega)) dX7_restore_17 ?_
    refine W.eq (g2 := F0 m 18 ls [.null]) rfl ?_
    refine lv_ifnonnullN hx hb dX7_restore_18 ?_
    refine lv_ldc (v := (-1000002)) hx hb hown (hts (.constant RX7 129 (-1000002)) (List.mem_of_getElem? (i := 3) rfl)) dX7_restore_21 ?_
    exact wr_i (v := (-1000002)) hx hb hr hlocks hS () (by unfold sp_image; (repeat' split) <;> first | rfl | (exfalso; omega)) (hP.sub [] rfl) (hD.sub [] (by decide) rfl) dX7_restore_23
  · subst e_1
    have f_1 : ¬ (0 ≤ p0.toInt ∧ p0.toInt ≤ 1) := f_1
    refine lv_if_ne (tgt := 12) hx hb dX7_restore_6 (by decide) (fun c9 => absurd (by decide) c9) (fun _ => ?_)
    refine lv_ldc (v := (-1000001)) hx hb hown (hts (.constant RX7 68 (-1000001)) (List.mem_of_getElem? (i := 1) rfl)) dX7_restore_9 ?_
    exact wr_i (v := (-1000001)) hx hb hr hlocks hS () (by unfold sp_image; (repeat' split) <;> first | rfl | (exfalso; omega)) (hP.sub [] rfl) (hD.sub [] (by decide) rfl) dX7_restore_11
set_option maxHeartbeats 4000000 in
set_option maxRecDepth 100000 in
theorem kx_kind (l : Launch) (D : va_G) (cI cB cQ : ClassId) (sz : Nat) (h : Nat) (rw : Nat) (tp : Nat) (nw : Nat) (ac : Nat) (im : Nat) (fo : Nat) (ak : Nat) (w0 : Nat) (w1 : Nat) (w2 : Nat) (w3 : Nat) (w4 : Nat) (w5 : Nat) (w6 : Nat) (w7 : Nat) (p0 : Int32) : mi l yX7_kind wsX7_kind ({ frames := 1, cells := 0, slots := 0, locals := 21 }) D cI cB cQ [.ref h, .int p0] sz [(h, .inr (6, [.ref rw, .ref tp, .ref nw, .ref ac, .ref im, .ref fo, .ref ak, .int 0])), (nw, .inr (3, [.int 0, .int 0, .int 0, .int 0, .int 0, .int 0, .int 0, .int 0, .ref w0, .ref w1, .ref w2, .ref w3, .ref w4, .ref w5, .ref w6, .ref w7]))] (fun (r : Int32) (_u : Unit) => r = (-1000001)) (fun _ => []) 0 0 := by
  refine wm_i (cc := cX7_kind) (maxL := 2) (ret := (some .int)) (by decide) rfl (Nat.le_of_ble_eq_true rfl) ?_
  intro p e s m below meth c A ls hx hb hr hml hown hts hlocks hin hP hK hD hN hA hl hS
  have hown : s.vm.findClass RX7 = some m.cls := hown
  have hl : lv_has ls 2 [(0, .ref h), (1, .int p0)] := hl
  change W p l e ({ frames := 1, cells := 0, slots := 0, locals := 21 }) s m ([.ref h, .int p0] : List Value).toArray below meth c s.heap [] 0 0 (MQ below (va_Qi (fun (r : Int32) (_u : Unit) => r = (-1000001)) (fun u t => wb D A ((fun _ => []) u) t) A) ([.ref h, .int p0] : List Value).toArray s 0 0 A) (F0 m 0 ls [])
  refine lv_aload_n hx hb dX7_kind_0 rfl (lv_at hl 0 rfl) ?_
  refine va_get (D := D) (ci := 6) (v := .ref nw) (C := RX7) (T := TX7) (N := 8) hx hb hts (fun _ h => List.mem_cons_of_mem _ (List.mem_append_left _ (List.mem_append_right _ h))) hown hK hP 0 rfl rfl 2 (by decide) (hts (.fieldLink RX7 26 "WinterWalk" "now" "LWinterWalk$Land;") (List.mem_of_getElem? (i := 1) rfl)) (fun _ h9 => h9) rfl dX7_kind_1 ?_
  refine lv_iload_n hx hb dX7_kind_4 rfl (lv_at hl 1 rfl) ?_
  have k_1 := (k_hasWalker l D cI cB cQ s.heap.size nw w0 w1 w2 w3 w4 w5 w6 w7 p0)
  refine wc_i (WC := [(nw, .inr (3, [.int 0, .int 0, .int 0, .int 0, .int 0, .int 0, .int 0, .int 0, .ref w0, .ref w1, .ref w2, .ref w3, .ref w4, .ref w5, .ref w6, .ref w7]))]) (WR := [(h, .inr (6, [.ref rw, .ref tp, .ref nw, .ref ac, .ref im, .ref fo, .ref ak, .int 0]))]) (va_runV (As := [.int p0]) (rest := []) ⟨hx, hb, hml, hown, hts⟩ k_1 (cwV 1 hts gX7_kind_X4_hasWalker rfl rfl rfl (by decide +kernel) ⟨Nat.le_of_ble_eq_true rfl, Nat.le_of_ble_eq_true rfl⟩) (wp_V hP hK hD hN [1] (by decide) rfl (ci := 3) rfl rfl) rfl rfl hl.1 rfl (lv_room (Nat.le_of_ble_eq_true rfl)) dX7_kind_5 ⟨Nat.le_of_ble_eq_true rfl, Nat.le_of_ble_eq_true rfl⟩) hP hD hS hA [1] [0] rfl rfl (by decide) (by decide) (fun r_1 u_1 H locs hw_1 hP hD hS => ?_)
  have hP : va_P D kl [(h, .inr (6, [.ref rw, .ref tp, .ref nw, .ref ac, .ref im, .ref fo, .ref ak, .int 0])), (nw, .inr (3, [.int 0, .int 0, .int 0, .int 0, .int 0, .int 0, .int 0, .int 0, .ref w0, .ref w1, .ref w2, .ref w3, .ref w4, .ref w5, .ref w6, .ref w7]))] H := hP
  have hD : va_D A [(h, .inr (6, [.ref rw, .ref tp, .ref nw, .ref ac, .ref im, .ref fo, .ref ak, .int 0])), (nw, .inr (3, [.int 0, .int 0, .int 0, .int 0, .int 0, .int 0, .int 0, .int 0, .ref w0, .ref w1, .ref w2, .ref w3, .ref w4, .ref w5, .ref w6, .ref w7]))] := hD
  obtain rfl : r_1 = 0 := by first | exact hw_1 | exact hw_1.trans (by decide)
  refine lv_if_ne (tgt := 14) hx hb dX7_kind_8 (by decide) (fun c9 => absurd (by decide) c9) (fun _ => ?_)
  refine lv_ldc (v := (-1000001)) hx hb hown (hts (.constant RX7 68 (-1000001)) (List.mem_of_getElem? (i := 2) rfl)) dX7_kind_11 ?_
  exact wr_i (v := (-1000001)) hx hb hr hlocks hS () (by rfl) (hP.sub [] rfl) (hD.sub [] (by decide) rfl) dX7_kind_13
set_option maxHeartbeats 4000000 in
set_option maxRecDepth 100000 in
theorem kx_as (l : Launch) (D : va_G) (cI cB cQ : ClassId) (sz : Nat) (h : Nat) (rw : Nat) (tp : Nat) (nw : Nat) (ac : Nat) (im : Nat) (fo : Nat) (ak : Nat) (w0 : Nat) (w1 : Nat) (w2 : Nat) (w3 : Nat) (w4 : Nat) (w5 : Nat) (w6 : Nat) (w7 : Nat) (p0 : Int32) (p1 : Int32) : mi l yX7_as wsX7_as ({ frames := 1, cells := 0, slots := 0, locals := 21 }) D cI cB cQ [.ref h, .int p0, .int p1] sz [(h, .inr (6, [.ref rw, .ref tp, .ref nw, .ref ac, .ref im, .ref fo, .ref ak, .int 0])), (nw, .inr (3, [.int 0, .int 0, .int 0, .int 0, .int 0, .int 0, .int 0, .int 0, .ref w0, .ref w1, .ref w2, .ref w3, .ref w4, .ref w5, .ref w6, .ref w7]))] (fun (r : Int32) (_u : Unit) => r = (-1000001)) (fun _ => []) 0 0 := by
  refine wm_i (cc := cX7_as) (maxL := 3) (ret := (some .int)) (by decide) rfl (Nat.le_of_ble_eq_true rfl) ?_
  intro p e s m below meth c A ls hx hb hr hml hown hts hlocks hin hP hK hD hN hA hl hS
  have hown : s.vm.findClass RX7 = some m.cls := hown
  have hl : lv_has ls 3 [(0, .ref h), (1, .int p0), (2, .int p1)] := hl
  change W p l e ({ frames := 1, cells := 0, slots := 0, locals := 21 }) s m ([.ref h, .int p0, .int p1] : List Value).toArray below meth c s.heap [] 0 0 (MQ below (va_Qi (fun (r : Int32) (_u : Unit) => r = (-1000001)) (fun u t => wb D A ((fun _ => []) u) t) A) ([.ref h, .int p0, .int p1] : List Value).toArray s 0 0 A) (F0 m 0 ls [])
  refine lv_aload_n hx hb dX7_as_0 rfl (lv_at hl 0 rfl) ?_
  refine va_get (D := D) (ci := 6) (v := .ref nw) (C := RX7) (T := TX7) (N := 8) hx hb hts (fun _ h => List.mem_cons_of_mem _ (List.mem_append_left _ (List.mem_append_right _ h))) hown hK hP 0 rfl rfl 2 (by decide) (hts (.fieldLink RX7 26 "WinterWalk" "now" "LWinterWalk$Land;") (List.mem_of_getElem? (i := 1) rfl)) (fun _ h9 => h9) rfl dX7_as_1 ?_
  refine lv_iload_n hx hb dX7_as_4 rfl (lv_at hl 1 rfl) ?_
  have k_1 := (k_hasWalker l D cI cB cQ s.heap.size nw w0 w1 w2 w3 w4 w5 w6 w7 p0)
  refine wc_i (WC := [(nw, .inr (3, [.int 0, .int 0, .int 0, .int 0, .int 0, .int 0, .int 0, .int 0, .ref w0, .ref w1, .ref w2, .ref w3, .ref w4, .ref w5, .ref w6, .ref w7]))]) (WR := [(h, .inr (6, [.ref rw, .ref tp, .ref nw, .ref ac, .ref im, .ref fo, .ref ak, .int 0]))]) (va_runV (As := [.int p0]) (rest := []) ⟨hx, hb, hml, hown, hts⟩ k_1 (cwV 1 hts gX7_as_X4_hasWalker rfl rfl rfl (by decide +kernel) ⟨Nat.le_of_ble_eq_true rfl, Nat.le_of_ble_eq_true rfl⟩) (wp_V hP hK hD hN [1] (by decide) rfl (ci := 3) rfl rfl) rfl rfl hl.1 rfl (lv_room (Nat.le_of_ble_eq_true rfl)) dX7_as_5 ⟨Nat.le_of_ble_eq_true rfl, Nat.le_of_ble_eq_true rfl⟩) hP hD hS hA [1] [0] rfl rfl (by decide) (by decide) (fun r_1 u_1 H locs hw_1 hP hD hS => ?_)
  have hP : va_P D kl [(h, .inr (6, [.ref rw, .ref tp, .ref nw, .ref ac, .ref im, .ref fo, .ref ak, .int 0])), (nw, .inr (3, [.int 0, .int 0, .int 0, .int 0, .int 0, .int 0, .int 0, .int 0, .ref w0, .ref w1, .ref w2, .ref w3, .ref w4, .ref w5, .ref w6, .ref w7]))] H := hP
  have hD : va_D A [(h, .inr (6, [.ref rw, .ref tp, .ref nw, .ref ac, .ref im, .ref fo, .ref ak, .int 0])), (nw, .inr (3, [.int 0, .int 0, .int 0, .int 0, .int 0, .int 0, .int 0, .int 0, .ref w0, .ref w1, .ref w2, .ref w3, .ref w4, .ref w5, .ref w6, .ref w7]))] := hD
  obtain rfl : r_1 = 0 := by first | exact hw_1 | exact hw_1.trans (by decide)
  refine lv_if_eq (tgt := 20) hx hb dX7_as_8 (by decide) (fun _ => ?_) (fun c9 => absurd (by decide) c9)
  refine lv_ldc (v := (-1000001)) hx hb hown (hts (.constant RX7 68 (-1000001)) (List.mem_of_getElem? (i := 2) rfl)) dX7_as_20 ?_
  exact wr_i (v := (-1000001)) hx hb hr hlocks hS () (by rfl) (hP.sub [] rfl) (hD.sub [] (by decide) rfl) dX7_as_22
set_option maxHeartbeats 4000000 in
set_option maxRecDepth 100000 in
theorem kx_ask (l : Launch) (D : va_G) (cI cB cQ : ClassId) (sz : Nat) (h : Nat) (rw : Nat) (tp : Nat) (nw : Nat) (ac : Nat) (im : Nat) (fo : Nat) (ak : Nat) (w0 : Nat) (w1 : Nat) (w2 : Nat) (w3 : Nat) (w4 : Nat) (w5 : Nat) (w6 : Nat) (w7 : Nat) (p0 : Int32) (p1 : Int32) : mi l yX7_ask wsX7_ask ({ frames := 1, cells := 0, slots := 0, locals := 21 }) D cI cB cQ [.ref h, .int p0, .int p1] sz [(h, .inr (6, [.ref rw, .ref tp, .ref nw, .ref ac, .ref im, .ref fo, .ref ak, .int 0])), (nw, .inr (3, [.int 0, .int 0, .int 0, .int 0, .int 0, .int 0, .int 0, .int 0, .ref w0, .ref w1, .ref w2, .ref w3, .ref w4, .ref w5, .ref w6, .ref w7]))] (fun (r : Int32) (_u : Unit) => r = (-1000001)) (fun _ => []) 0 0 := by
  refine wm_i (cc := cX7_ask) (maxL := 3) (ret := (some .int)) (by decide) rfl (Nat.le_of_ble_eq_true rfl) ?_
  intro p e s m below meth c A ls hx hb hr hml hown hts hlocks hin hP hK hD hN hA hl hS
  have hown : s.vm.findClass RX7 = some m.cls := hown
  have hl : lv_has ls 3 [(0, .ref h), (1, .int p0), (2, .int p1)] := hl
  change W p l e ({ frames := 1, cells := 0, slots := 0, locals := 21 }) s m ([.ref h, .int p0, .int p1] : List Value).toArray below meth c s.heap [] 0 0 (MQ below (va_Qi (fun (r : Int32) (_u : Unit) => r = (-1000001)) (fun u t => wb D A ((fun _ => []) u) t) A) ([.ref h, .int p0, .int p1] : List Value).toArray s 0 0 A) (F0 m 0 ls [])
  refine lv_aload_n hx hb dX7_ask_0 rfl (lv_at hl 0 rfl) ?_
  refine va_get (D := D) (ci := 6) (v := .ref nw) (C := RX7) (T := TX7) (N := 8) hx hb hts (fun _ h => List.mem_cons_of_mem _ (List.mem_append_left _ (List.mem_append_left _ (List.mem_append_right _ h)))) hown hK hP 0 rfl rfl 2 (by decide) (hts (.fieldLink RX7 26 "WinterWalk" "now" "LWinterWalk$Land;") (List.mem_of_getElem? (i := 1) rfl)) (fun _ h9 => h9) rfl dX7_ask_1 ?_
  refine lv_iload_n hx hb dX7_ask_4 rfl (lv_at hl 1 rfl) ?_
  have k_1 := (k_hasWalker l D cI cB cQ s.heap.size nw w0 w1 w2 w3 w4 w5 w6 w7 p0)
  refine wc_i (WC := [(nw, .inr (3, [.int 0, .int 0, .int 0, .int 0, .int 0, .int 0, .int 0, .int 0, .ref w0, .ref w1, .ref w2, .ref w3, .ref w4, .ref w5, .ref w6, .ref w7]))]) (WR := [(h, .inr (6, [.ref rw, .ref tp, .ref nw, .ref ac, .ref im, .ref fo, .ref ak, .int 0]))]) (va_runV (As := [.int p0]) (rest := []) ⟨hx, hb, hml, hown, hts⟩ k_1 (cwV 1 hts gX7_ask_X4_hasWalker rfl rfl rfl (by decide +kernel) ⟨Nat.le_of_ble_eq_true rfl, Nat.le_of_ble_eq_true rfl⟩) (wp_V hP hK hD hN [1] (by decide) rfl (ci := 3) rfl rfl) rfl rfl hl.1 rfl (lv_room (Nat.le_of_ble_eq_true rfl)) dX7_ask_5 ⟨Nat.le_of_ble_eq_true rfl, Nat.le_of_ble_eq_true rfl⟩) hP hD hS hA [1] [0] rfl rfl (by decide) (by decide) (fun r_1 u_1 H locs hw_1 hP hD hS => ?_)
  have hP : va_P D kl [(h, .inr (6, [.ref rw, .ref tp, .ref nw, .ref ac, .ref im, .ref fo, .ref ak, .int 0])), (nw, .inr (3, [.int 0, .int 0, .int 0, .int 0, .int 0, .int 0, .int 0, .int 0, .ref w0, .ref w1, .ref w2, .ref w3, .ref w4, .ref w5, .ref w6, .ref w7]))] H := hP
  have hD : va_D A [(h, .inr (6, [.ref rw, .ref tp, .ref nw, .ref ac, .ref im, .ref fo, .ref ak, .int 0])), (nw, .inr (3, [.int 0, .int 0, .int 0, .int 0, .int 0, .int 0, .int 0, .int 0, .ref w0, .ref w1, .ref w2, .ref w3, .ref w4, .ref w5, .ref w6, .ref w7]))] := hD
  obtain rfl : r_1 = 0 := by first | exact hw_1 | exact hw_1.trans (by decide)
  refine lv_if_eq (tgt := 20) hx hb dX7_ask_8 (by decide) (fun _ => ?_) (fun c9 => absurd (by decide) c9)
  refine lv_ldc (v := (-1000001)) hx hb hown (hts (.constant RX7 68 (-1000001)) (List.mem_of_getElem? (i := 2) rfl)) dX7_ask_20 ?_
  exact wr_i (v := (-1000001)) hx hb hr hlocks hS () (by rfl) (hP.sub [] rfl) (hD.sub [] (by decide) rfl) dX7_ask_22
set_option maxHeartbeats 4000000 in
set_option maxRecDepth 100000 in
theorem kx_trace (l : Launch) (D : va_G) (cI cB cQ : ClassId) (sz : Nat) (h : Nat) (rw : Nat) (tp : Nat) (nw : Nat) (ac : Nat) (im : Nat) (fo : Nat) (ak : Nat) (bo : Nat) (p0 : Int32) : mi l yX7_trace wsX7_trace ({ frames := 0, cells := 0, slots := 0, locals := 0 }) D cI cB cQ [.ref h, .int p0] sz [(h, .inr (6, [.ref rw, .ref tp, .ref nw, .ref ac, .ref im, .ref fo, .ref ak, .int 0])), (ak, .inr (1, [.ref nw, .ref bo, .int 0]))] (fun (r : Int32) (_u : Unit) => r = (-1000000)) (fun _ => []) 0 0 := by
  refine wm_i (cc := cX7_trace) (maxL := 2) (ret := (some .int)) (by decide) rfl (Nat.le_of_ble_eq_true rfl) ?_
  intro p e s m below meth c A ls hx hb hr hml hown hts hlocks hin hP hK hD hN hA hl hS
  have hown : s.vm.findClass RX7 = some m.cls := hown
  have hl : lv_has ls 2 [(0, .ref h), (1, .int p0)] := hl
  change W p l e ({ frames := 0, cells := 0, slots := 0, locals := 0 }) s m ([.ref h, .int p0] : List Value).toArray below meth c s.heap [] 0 0 (MQ below (va_Qi (fun (r : Int32) (_u : Unit) => r = (-1000000)) (fun u t => wb D A ((fun _ => []) u) t) A) ([.ref h, .int p0] : List Value).toArray s 0 0 A) (F0 m 0 ls [])
  refine lv_iload_n hx hb dX7_trace_0 rfl (lv_at hl 1 rfl) ?_
  refine lv_if_lt (tgt := 15) hx hb dX7_trace_1 (by decide) (fun c_1 => ?_) (fun c_1 => ?_)
  · have f_1 : p0.toInt < 0 := zi_lt c_1
    refine lv_ldc (v := (-1000000)) hx hb hown (hts (.constant RX7 223 (-1000000)) (List.mem_of_getElem? (i := 3) rfl)) dX7_trace_15 ?_
    exact wr_i (v := (-1000000)) hx hb hr hlocks hS () (by rfl) (hP.sub [] rfl) (hD.sub [] (by decide) rfl) dX7_trace_17
  · have f_1 : ¬ p0.toInt < 0 := zi_nlt c_1
    refine lv_iload_n hx hb dX7_trace_4 rfl (lv_at hl 1 rfl) ?_
    refine lv_aload_n hx hb dX7_trace_5 rfl (lv_at hl 0 rfl) ?_
    refine va_get (D := D) (ci := 6) (v := .ref ak) (C := RX7) (T := TX7) (N := 8) hx hb hts (fun _ h => List.mem_cons_of_mem _ (List.mem_append_left _ (List.mem_append_right _ h))) hown hK hP 0 rfl rfl 6 (by decide) (hts (.fieldLink RX7 53 "WinterWalk" "asks" "LWinterWalk$Asks;") (List.mem_of_getElem? (i := 1) rfl)) (fun _ h9 => h9) rfl dX7_trace_6 ?_
    refine va_get (D := D) (ci := 1) (v := .int 0) (C := RX1) (T := TX1) (N := 3) hx hb hts (fun _ h => List.mem_cons_of_mem _ (List.mem_append_right _ h)) hown hK hP 1 rfl rfl 2 (by decide) (hts (.fieldLink RX7 287 "WinterWalk$Asks" "traced" "I") (List.mem_of_getElem? (i := 2) rfl)) (fun _ h9 => h9) rfl dX7_trace_9 ?_
    refine lv_icmp_lt (tgt := 18) hx hb dX7_trace_12 (by decide) (fun c_2 => ?_) (fun c_2 => ?_)
    · have f_2 : p0.toInt < 0 := zi_lt c_2
      exfalso; omega
    · have f_2 : ¬ p0.toInt < 0 := zi_nlt c_2
      refine lv_ldc (v := (-1000000)) hx hb hown (hts (.constant RX7 223 (-1000000)) (List.mem_of_getElem? (i := 3) rfl)) dX7_trace_15 ?_
      exact wr_i (v := (-1000000)) hx hb hr hlocks hS () (by rfl) (hP.sub [] rfl) (hD.sub [] (by decide) rfl) dX7_trace_17
set_option maxHeartbeats 4000000 in
set_option maxRecDepth 100000 in
theorem kx_count (l : Launch) (D : va_G) (cI cB cQ : ClassId) (sz : Nat) (h : Nat) (rw : Nat) (tp : Nat) (nw : Nat) (ac : Nat) (im : Nat) (fo : Nat) (ak : Nat) (la : Nat) (sq : Nat) (ir : Nat) (w0 : Nat) (w1 : Nat) (w2 : Nat) (w3 : Nat) (w4 : Nat) (w5 : Nat) (w6 : Nat) (w7 : Nat) (rg : Nat) (tb : Nat) (dr : Nat) (p0 : Int32) : mi l yX7_count wsX7_count ({ frames := 2, cells := 0, slots := 0, locals := 43 }) D cI cB cQ [.ref h, .int p0] sz [(h, .inr (6, [.ref rw, .ref tp, .ref nw, .ref ac, .ref im, .ref fo, .ref ak, .int 0])), (rw, .inr (4, [.ref la, .ref sq, .ref ir])), (la, .inl (cI, 8, .inl (fun _ => (-1)))), (nw, .inr (3, [.int 0, .int 0, .int 0, .int 0, .int 0, .int 0, .int 0, .int 0, .ref w0, .ref w1, .ref w2, .ref w3, .ref w4, .ref w5, .ref w6, .ref w7])), (ac, .inr (0, [.ref rg, .int 0, .int 0])), (tp, .inr (5, [.ref tb, .ref dr, .int 0, .int 0, .int 0, .int 0, .int 0]))] (fun (r : Int32) (_u : Unit) => r = sp_count p0) (fun _ => []) 0 0 := by
  refine wm_i (cc := cX7_count) (maxL := 2) (ret := (some .int)) (by decide) rfl (Nat.le_of_ble_eq_true rfl) ?_
  intro p e s m below meth c A ls hx hb hr hml hown hts hlocks hin hP hK hD hN hA hl hS
  have hown : s.vm.findClass RX7 = some m.cls := hown
  have hl : lv_has ls 2 [(0, .ref h), (1, .int p0)] := hl
  change W p l e ({ frames := 2, cells := 0, slots := 0, locals := 43 }) s m ([.ref h, .int p0] : List Value).toArray below meth c s.heap [] 0 0 (MQ below (va_Qi (fun (r : Int32) (_u : Unit) => r = sp_count p0) (fun u t => wb D A ((fun _ => []) u) t) A) ([.ref h, .int p0] : List Value).toArray s 0 0 A) (F0 m 0 ls [])
  refine lv_iload_n hx hb dX7_count_0 rfl (lv_at hl 1 rfl) ?_
  by_cases f_1 : p0.toInt < 0 ∨ 8 < p0.toInt
  · refine lv_tableOut (tgt := 124) hx hb dX7_count_1 f_1 (by decide) ?_
    refine lv_ldc (v := (-1000001)) hx hb hown (hts (.constant RX7 68 (-1000001)) (List.mem_of_getElem? (i := 13) rfl)) dX7_count_124 ?_
    exact wr_i (v := (-1000001)) hx hb hr hlocks hS () (by unfold sp_count; (repeat' split) <;> first | rfl | (exfalso; omega)) (hP.sub [] rfl) (hD.sub [] (by decide) rfl) dX7_count_126
  · rcases (show p0.toInt = 0 ∨ p0.toInt = 1 ∨ p0.toInt = 2 ∨ p0.toInt = 3 ∨ p0.toInt = 4 ∨ p0.toInt = 5 ∨ p0.toInt = 6 ∨ p0.toInt = 7 ∨ p0.toInt = 8 by omega) with f_1 | f_1 | f_1 | f_1 | f_1 | f_1 | f_1 | f_1 | f_1
    · obtain rfl : p0 = 0 := Int32.toInt_inj.mp f_1
      refine lv_tableIn (off := 51) (tgt := 52) hx hb dX7_count_1 (by decide) (by decide) rfl (by decide) ?_
      refine lv_aload_n hx hb dX7_count_52 rfl (lv_at hl 0 rfl) ?_
      refine va_get (D := D) (ci := 6) (v := .ref rw) (C := RX7) (T := TX7) (N := 8) hx hb hts (fun _ h => List.mem_cons_of_mem _ (List.mem_append_left _ (List.mem_append_left _ (List.mem_append_left _ (List.mem_append_left _ (List.mem_append_right _ h)))))) hown hK hP 0 rfl rfl 0 (by decide) (hts (.fieldLink RX7 10 "WinterWalk" "rows" "LWinterWalk$Rows;") (List.mem_of_getElem? (i := 1) rfl)) (fun _ h9 => h9) rfl dX7_count_53 ?_
      have k_2 := (k_howMany l D cI cB cQ s.heap.size rw la sq ir)
      refine wc_i (WC := [(rw, .inr (4, [.ref la, .ref sq, .ref ir])), (la, .inl (cI, 8, .inl (fun _ => (-1))))]) (WR := [(h, .inr (6, [.ref rw, .ref tp, .ref nw, .ref ac, .ref im, .ref fo, .ref ak, .int 0])), (nw, .inr (3, [.int 0, .int 0, .int 0, .int 0, .int 0, .int 0, .int 0, .int 0, .ref w0, .ref w1, .ref w2, .ref w3, .ref w4, .ref w5, .ref w6, .ref w7])), (ac, .inr (0, [.ref rg, .int 0, .int 0])), (tp, .inr (5, [.ref tb, .ref dr, .int 0, .int 0, .int 0, .int 0, .int 0]))]) (va_runV (As := []) (rest := []) ⟨hx, hb, hml, hown, hts⟩ k_2 (cwV 0 hts gX7_count_X5_howMany rfl rfl rfl (by decide +kernel) ⟨Nat.le_of_ble_eq_true rfl, Nat.le_of_ble_eq_true rfl⟩) (wp_V hP hK hD hN [1, 2] (by decide) rfl (ci := 4) rfl rfl) rfl rfl hl.1 rfl (lv_room (Nat.le_of_ble_eq_true rfl)) dX7_count_56 ⟨Nat.le_of_ble_eq_true rfl, Nat.le_of_ble_eq_true rfl⟩) hP hD hS hA [1, 2] [0, 3, 4, 5] rfl rfl (by decide) (by decide) (fun r_2 u_2 H locs hw_2 hP hD hS => ?_)
      have hP : va_P D kl [(h, .inr (6, [.ref rw, .ref tp, .ref nw, .ref ac, .ref im, .ref fo, .ref ak, .int 0])), (nw, .inr (3, [.int 0, .int 0, .int 0, .int 0, .int 0, .int 0, .int 0, .int 0, .ref w0, .ref w1, .ref w2, .ref w3, .ref w4, .ref w5, .ref w6, .ref w7])), (ac, .inr (0, [.ref rg, .int 0, .int 0])), (tp, .inr (5, [.ref tb, .ref dr, .int 0, .int 0, .int 0, .int 0, .int 0]))] H := hP
      have hD : va_D A [(h, .inr (6, [.ref rw, .ref tp, .ref nw, .ref ac, .ref im, .ref fo, .ref ak, .int 0])), (nw, .inr (3, [.int 0, .int 0, .int 0, .int 0, .int 0, .int 0, .int 0, .int 0, .ref w0, .ref w1, .ref w2, .ref w3, .ref w4, .ref w5, .ref w6, .ref w7])), (ac, .inr (0, [.ref rg, .int 0, .int 0])), (tp, .inr (5, [.ref tb, .ref dr, .int 0, .int 0, .int 0, .int 0, .int 0]))] := hD
      obtain rfl : r_2 = 0 := by first | exact hw_2 | exact hw_2.trans (by decide)
      exact wr_i (v := 0) hx hb hr hlocks hS () (by unfold sp_count; (repeat' split) <;> first | rfl | (exfalso; omega)) (hP.sub [] rfl) (hD.sub [] (by decide) rfl) dX7_count_59
    · obtain rfl : p0 = 1 := Int32.toInt_inj.mp f_1
      refine lv_tableIn (off := 59) (tgt := 60) hx hb dX7_count_1 (by decide) (by decide) rfl (by decide) ?_
      refine lv_aload_n hx hb dX7_count_60 rfl (lv_at hl 0 rfl) ?_
      refine va_get (D := D) (ci := 6) (v := .ref nw) (C := RX7) (T := TX7) (N := 8) hx hb hts (fun _ h => List.mem_cons_of_mem _ (List.mem_append_left _ (List.mem_append_left _ (List.mem_append_left _ (List.mem_append_left _ (List.mem_append_right _ h)))))) hown hK hP 0 rfl rfl 2 (by decide) (hts (.fieldLink RX7 26 "WinterWalk" "now" "LWinterWalk$Land;") (List.mem_of_getElem? (i := 2) rfl)) (fun _ h9 => h9) rfl dX7_count_61 ?_
      refine va_get (D := D) (ci := 3) (v := .int 0) (C := RX4) (T := TX4) (N := 16) hx hb hts (fun _ h => List.mem_cons_of_mem _ (List.mem_append_left _ (List.mem_append_left _ (List.mem_append_left _ (List.mem_append_right _ h))))) hown hK hP 3 rfl rfl 0 (by decide) (hts (.fieldLink RX7 120 "WinterWalk$Land" "villages" "I") (List.mem_of_getElem? (i := 3) rfl)) (fun _ h9 => h9) rfl dX7_count_64 ?_
      exact wr_i (v := 0) hx hb hr hlocks hS () (by unfold sp_count; (repeat' split) <;> first | rfl | (exfalso; omega)) (hP.sub [] rfl) (hD.sub [] (by decide) rfl) dX7_count_67
    · obtain rfl : p0 = 2 := Int32.toInt_inj.mp f_1
      refine lv_tableIn (off := 67) (tgt := 68) hx hb dX7_count_1 (by decide) (by decide) rfl (by decide) ?_
      refine lv_aload_n hx hb dX7_count_68 rfl (lv_at hl 0 rfl) ?_
      refine va_get (D := D) (ci := 6) (v := .ref nw) (C := RX7) (T := TX7) (N := 8) hx hb hts (fun _ h => List.mem_cons_of_mem _ (List.mem_append_left _ (List.mem_append_left _ (List.mem_append_left _ (List.mem_append_left _ (List.mem_append_right _ h)))))) hown hK hP 0 rfl rfl 2 (by decide) (hts (.fieldLink RX7 26 "WinterWalk" "now" "LWinterWalk$Land;") (List.mem_of_getElem? (i := 2) rfl)) (fun _ h9 => h9) rfl dX7_count_69 ?_
      refine va_get (D := D) (ci := 3) (v := .int 0) (C := RX4) (T := TX4) (N := 16) hx hb hts (fun _ h => List.mem_cons_of_mem _ (List.mem_append_left _ (List.mem_append_left _ (List.mem_append_left _ (List.mem_append_right _ h))))) hown hK hP 3 rfl rfl 1 (by decide) (hts (.fieldLink RX7 296 "WinterWalk$Land" "roadsTold" "I") (List.mem_of_getElem? (i := 4) rfl)) (fun _ h9 => h9) rfl dX7_count_72 ?_
      exact wr_i (v := 0) hx hb hr hlocks hS () (by unfold sp_count; (repeat' split) <;> first | rfl | (exfalso; omega)) (hP.sub [] rfl) (hD.sub [] (by decide) rfl) dX7_count_75
    · obtain rfl : p0 = 3 := Int32.toInt_inj.mp f_1
      refine lv_tableIn (off := 75) (tgt := 76) hx hb dX7_count_1 (by decide) (by decide) rfl (by decide) ?_
      refine lv_aload_n hx hb dX7_count_76 rfl (lv_at hl 0 rfl) ?_
      refine va_get (D := D) (ci := 6) (v := .ref nw) (C := RX7) (T := TX7) (N := 8) hx hb hts (fun _ h => List.mem_cons_of_mem _ (List.mem_append_left _ (List.mem_append_left _ (List.mem_append_left _ (List.mem_append_left _ (List.mem_append_right _ h)))))) hown hK hP 0 rfl rfl 2 (by decide) (hts (.fieldLink RX7 26 "WinterWalk" "now" "LWinterWalk$Land;") (List.mem_of_getElem? (i := 2) rfl)) (fun _ h9 => h9) rfl dX7_count_77 ?_
      refine va_get (D := D) (ci := 3) (v := .int 0) (C := RX4) (T := TX4) (N := 16) hx hb hts (fun _ h => List.mem_cons_of_mem _ (List.mem_append_left _ (List.mem_append_left _ (List.mem_append_left _ (List.mem_append_right _ h))))) hown hK hP 3 rfl rfl 2 (by decide) (hts (.fieldLink RX7 299 "WinterWalk$Land" "walkers" "I") (List.mem_of_getElem? (i := 5) rfl)) (fun _ h9 => h9) rfl dX7_count_80 ?_
      exact wr_i (v := 0) hx hb hr hlocks hS () (by unfold sp_count; (repeat' split) <;> first | rfl | (exfalso; omega)) (hP.sub [] rfl) (hD.sub [] (by decide) rfl) dX7_count_83
    · obtain rfl : p0 = 4 := Int32.toInt_inj.mp f_1
      refine lv_tableIn (off := 83) (tgt := 84) hx hb dX7_count_1 (by decide) (by decide) rfl (by decide) ?_
      refine lv_aload_n hx hb dX7_count_84 rfl (lv_at hl 0 rfl) ?_
      refine va_get (D := D) (ci := 6) (v := .ref nw) (C := RX7) (T := TX7) (N := 8) hx hb hts (fun _ h => List.mem_cons_of_mem _ (List.mem_append_left _ (List.mem_append_left _ (List.mem_append_left _ (List.mem_append_left _ (List.mem_append_right _ h)))))) hown hK hP 0 rfl rfl 2 (by decide) (hts (.fieldLink RX7 26 "WinterWalk" "now" "LWinterWalk$Land;") (List.mem_of_getElem? (i := 2) rfl)) (fun _ h9 => h9) rfl dX7_count_85 ?_
      refine va_get (D := D) (ci := 3) (v := .int 0) (C := RX4) (T := TX4) (N := 16) hx hb hts (fun _ h => List.mem_cons_of_mem _ (List.mem_append_left _ (List.mem_append_left _ (List.mem_append_left _ (List.mem_append_right _ h))))) hown hK hP 3 rfl rfl 5 (by decide) (hts (.fieldLink RX7 141 "WinterWalk$Land" "day" "I") (List.mem_of_getElem? (i := 6) rfl)) (fun _ h9 => h9) rfl dX7_count_88 ?_
      exact wr_i (v := 0) hx hb hr hlocks hS () (by unfold sp_count; (repeat' split) <;> first | rfl | (exfalso; omega)) (hP.sub [] rfl) (hD.sub [] (by decide) rfl) dX7_count_91
    · obtain rfl : p0 = 5 := Int32.toInt_inj.mp f_1
      refine lv_tableIn (off := 91) (tgt := 92) hx hb dX7_count_1 (by decide) (by decide) rfl (by decide) ?_
      refine lv_aload_n hx hb dX7_count_92 rfl (lv_at hl 0 rfl) ?_
      refine va_get (D := D) (ci := 6) (v := .ref nw) (C := RX7) (T := TX7) (N := 8) hx hb hts (fun _ h => List.mem_cons_of_mem _ (List.mem_append_left _ (List.mem_append_left _ (List.mem_append_left _ (List.mem_append_left _ (List.mem_append_right _ h)))))) hown hK hP 0 rfl rfl 2 (by decide) (hts (.fieldLink RX7 26 "WinterWalk" "now" "LWinterWalk$Land;") (List.mem_of_getElem? (i := 2) rfl)) (fun _ h9 => h9) rfl dX7_count_93 ?_
      refine va_get (D := D) (ci := 3) (v := .int 0) (C := RX4) (T := TX4) (N := 16) hx hb hts (fun _ h => List.mem_cons_of_mem _ (List.mem_append_left _ (List.mem_append_left _ (List.mem_append_left _ (List.mem_append_right _ h))))) hown hK hP 3 rfl rfl 6 (by decide) (hts (.fieldLink RX7 150 "WinterWalk$Land" "gain" "I") (List.mem_of_getElem? (i := 7) rfl)) (fun _ h9 => h9) rfl dX7_count_96 ?_
      exact wr_i (v := 0) hx hb hr hlocks hS () (by unfold sp_count; (repeat' split) <;> first | rfl | (exfalso; omega)) (hP.sub [] rfl) (hD.sub [] (by decide) rfl) dX7_count_99
    · obtain rfl : p0 = 6 := Int32.toInt_inj.mp f_1
      refine lv_tableIn (off := 99) (tgt := 100) hx hb dX7_count_1 (by decide) (by decide) rfl (by decide) ?_
      refine lv_aload_n hx hb dX7_count_100 rfl (lv_at hl 0 rfl) ?_
      refine va_get (D := D) (ci := 6) (v := .ref nw) (C := RX7) (T := TX7) (N := 8) hx hb hts (fun _ h => List.mem_cons_of_mem _ (List.mem_append_left _ (List.mem_append_left _ (List.mem_append_left _ (List.mem_append_left _ (List.mem_append_right _ h)))))) hown hK hP 0 rfl rfl 2 (by decide) (hts (.fieldLink RX7 26 "WinterWalk" "now" "LWinterWalk$Land;") (List.mem_of_getElem? (i := 2) rfl)) (fun _ h9 => h9) rfl dX7_count_101 ?_
      refine va_get (D := D) (ci := 3) (v := .int 0) (C := RX4) (T := TX4) (N := 16) hx hb hts (fun _ h => List.mem_cons_of_mem _ (List.mem_append_left _ (List.mem_append_left _ (List.mem_append_left _ (List.mem_append_right _ h))))) hown hK hP 3 rfl rfl 7 (by decide) (hts (.fieldLink RX7 203 "WinterWalk$Land" "paid" "I") (List.mem_of_getElem? (i := 8) rfl)) (fun _ h9 => h9) rfl dX7_count_104 ?_
      exact wr_i (v := 0) hx hb hr hlocks hS () (by unfold sp_count; (repeat' split) <;> first | rfl | (exfalso; omega)) (hP.sub [] rfl) (hD.sub [] (by decide) rfl) dX7_count_107
    · obtain rfl : p0 = 7 := Int32.toInt_inj.mp f_1
      refine lv_tableIn (off := 107) (tgt := 108) hx hb dX7_count_1 (by decide) (by decide) rfl (by decide) ?_
      refine lv_aload_n hx hb dX7_count_108 rfl (lv_at hl 0 rfl) ?_
      refine va_get (D := D) (ci := 6) (v := .ref ac) (C := RX7) (T := TX7) (N := 8) hx hb hts (fun _ h => List.mem_cons_of_mem _ (List.mem_append_left _ (List.mem_append_left _ (List.mem_append_left _ (List.mem_append_left _ (List.mem_append_right _ h)))))) hown hK hP 0 rfl rfl 3 (by decide) (hts (.fieldLink RX7 33 "WinterWalk" "acts" "LWinterWalk$Acts;") (List.mem_of_getElem? (i := 9) rfl)) (fun _ h9 => h9) rfl dX7_count_109 ?_
      refine va_get (D := D) (ci := 0) (v := .int 0) (C := RX0) (T := TX0) (N := 3) hx hb hts (fun _ h => List.mem_cons_of_mem _ (List.mem_append_left _ (List.mem_append_left _ (List.mem_append_right _ h)))) hown hK hP 4 rfl rfl 2 (by decide) (hts (.fieldLink RX7 126 "WinterWalk$Acts" "kept" "I") (List.mem_of_getElem? (i := 10) rfl)) (fun _ h9 => h9) rfl dX7_count_112 ?_
      exact wr_i (v := 0) hx hb hr hlocks hS () (by unfold sp_count; (repeat' split) <;> first | rfl | (exfalso; omega)) (hP.sub [] rfl) (hD.sub [] (by decide) rfl) dX7_count_115
    · obtain rfl : p0 = 8 := Int32.toInt_inj.mp f_1
      refine lv_tableIn (off := 115) (tgt := 116) hx hb dX7_count_1 (by decide) (by decide) rfl (by decide) ?_
      refine lv_aload_n hx hb dX7_count_116 rfl (lv_at hl 0 rfl) ?_
      refine va_get (D := D) (ci := 6) (v := .ref tp) (C := RX7) (T := TX7) (N := 8) hx hb hts (fun _ h => List.mem_cons_of_mem _ (List.mem_append_left _ (List.mem_append_left _ (List.mem_append_left _ (List.mem_append_left _ (List.mem_append_right _ h)))))) hown hK hP 0 rfl rfl 1 (by decide) (hts (.fieldLink RX7 19 "WinterWalk" "tape" "LWinterWalk$Tape;") (List.mem_of_getElem? (i := 11) rfl)) (fun _ h9 => h9) rfl dX7_count_117 ?_
      refine va_get (D := D) (ci := 5) (v := .int 0) (C := RX6) (T := TX6) (N := 7) hx hb hts (fun _ h => List.mem_cons_of_mem _ (List.mem_append_left _ (List.mem_append_right _ h))) hown hK hP 5 rfl rfl 2 (by decide) (hts (.fieldLink RX7 302 "WinterWalk$Tape" "length" "I") (List.mem_of_getElem? (i := 12) rfl)) (fun _ h9 => h9) rfl dX7_count_120 ?_
      exact wr_i (v := 0) hx hb hr hlocks hS () (by unfold sp_count; (repeat' split) <;> first | rfl | (exfalso; omega)) (hP.sub [] rfl) (hD.sub [] (by decide) rfl) dX7_count_123
set_option maxHeartbeats 4000000 in
set_option maxRecDepth 100000 in
theorem kx_status (l : Launch) (D : va_G) (cI cB cQ : ClassId) (sz : Nat) (h : Nat) (rw : Nat) (tp : Nat) (nw : Nat) (ac : Nat) (im : Nat) (fo : Nat) (ak : Nat) : mi l yX7_status wsX7_status ({ frames := 0, cells := 0, slots := 0, locals := 0 }) D cI cB cQ [.ref h] sz [(h, .inr (6, [.ref rw, .ref tp, .ref nw, .ref ac, .ref im, .ref fo, .ref ak, .int 0]))] (fun (r : Int32) (_u : Unit) => r = 0) (fun _ => []) 0 0 := by
  refine wm_i (cc := cX7_status) (maxL := 1) (ret := (some .int)) (by decide) rfl (Nat.le_of_ble_eq_true rfl) ?_
  intro p e s m below meth c A ls hx hb hr hml hown hts hlocks hin hP hK hD hN hA hl hS
  have hown : s.vm.findClass RX7 = some m.cls := hown
  have hl : lv_has ls 1 [(0, .ref h)] := hl
  change W p l e ({ frames := 0, cells := 0, slots := 0, locals := 0 }) s m ([.ref h] : List Value).toArray below meth c s.heap [] 0 0 (MQ below (va_Qi (fun (r : Int32) (_u : Unit) => r = 0) (fun u t => wb D A ((fun _ => []) u) t) A) ([.ref h] : List Value).toArray s 0 0 A) (F0 m 0 ls [])
  refine lv_aload_n hx hb dX7_status_0 rfl (lv_at hl 0 rfl) ?_
  refine va_get (D := D) (ci := 6) (v := .int 0) (C := RX7) (T := TX7) (N := 8) hx hb hts (fun _ h => List.mem_cons_of_mem _ (List.mem_append_right _ h)) hown hK hP 0 rfl rfl 7 (by decide) (hts (.fieldLink RX7 57 "WinterWalk" "finding" "I") (List.mem_of_getElem? (i := 1) rfl)) (fun _ h9 => h9) rfl dX7_status_1 ?_
  exact wr_i (v := 0) hx hb hr hlocks hS () (by rfl) (hP.sub [] rfl) (hD.sub [] (by decide) rfl) dX7_status_4
