/-! row, with its answer -/
def sp_row (a b n : Int32) : Int32 := if (0 ≤ a.toInt ∧ a.toInt ≤ 7) ∧ (0 ≤ b.toInt ∧ b.toInt ≤ 2) ∧ n.toInt ≤ 40 then (if n.toInt < 0 then (-1000014) else n) else (-1000001)
set_option maxHeartbeats 4000000 in
set_option maxRecDepth 100000 in
theorem e_X7_found (l : Launch) (D : va_G) (cI cB cQ : ClassId) (sz : Nat) (h : Nat) (rw : Nat) (tp : Nat) (nw : Nat) (ac : Nat) (im : Nat) (fo : Nat) (ak : Nat) (fg : Int32) (n : Int32) : mi l yX7_found wsX7_found ({ frames := 0, cells := 0, slots := 0, locals := 0 }) D cI cB cQ [.ref h, .int n] sz [(h, .inr (6, [.ref rw, .ref tp, .ref nw, .ref ac, .ref im, .ref fo, .ref ak, .int fg]))] (fun (r : Int32) (u : Int32) => (r = (-1000010) - n)) (fun u => [(h, .inr (6, [.ref rw, .ref tp, .ref nw, .ref ac, .ref im, .ref fo, .ref ak, .int u]))]) 0 0 := by
  refine wm_i (cc := cX7_found) (maxL := 2) (ret := (some .int)) (by decide) rfl (Nat.le_of_ble_eq_true rfl) ?_
  intro p e s m below meth c A ls hx hb hr hml hown hts hlocks hin hP hK hD hN hA hl hS
  have hown : s.vm.findClass RX7 = some m.cls := hown
  have hl : lv_has ls 2 [(0, .ref h), (1, .int n)] := hl
  change W p l e ({ frames := 0, cells := 0, slots := 0, locals := 0 }) s m ([.ref h, .int n] : List Value).toArray below meth c s.heap [] 0 0 (MQ below (va_Qi (fun (r : Int32) (u : Int32) => (r = (-1000010) - n)) (fun u t => wb D A ((fun u => [(h, .inr (6, [.ref rw, .ref tp, .ref nw, .ref ac, .ref im, .ref fo, .ref ak, .int u]))]) u) t) A) ([.ref h, .int n] : List Value).toArray s 0 0 A) (F0 m 0 ls [])
  refine lv_aload_n hx hb dX7_found_0 rfl (lv_at hl 0 rfl) ?_
  refine lv_iload_n hx hb dX7_found_1 rfl (lv_at hl 1 rfl) ?_
  refine va_put (D := D) (ci := 6) (v := .int n) (ty := .int) (C := RX7) (T := TX7) (N := 8) hx hb hts (fun _ h => List.mem_cons_of_mem _ (List.mem_append_right _ h)) tyX7 tyX7_ok nmX7 hown hK hP hD hS 0 rfl rfl 7 (by decide) (hts (.fieldLink RX7 57 "WinterWalk" "finding" "I") (List.mem_of_getElem? (i := 1) rfl)) (fun _ h9 => h9) rfl (by decide +kernel) rfl rfl (Nat.le_of_ble_eq_true rfl) dX7_found_2 (fun H locs hP hD hS => ?_)
  have hP : va_P D kl [(h, .inr (6, [.ref rw, .ref tp, .ref nw, .ref ac, .ref im, .ref fo, .ref ak, .int n]))] H := hP
  have hD : va_D A [(h, .inr (6, [.ref rw, .ref tp, .ref nw, .ref ac, .ref im, .ref fo, .ref ak, .int n]))] := hD
  refine lv_ldcw (v := (-1000010)) hx hb hown (hts (.constant RX7 305 (-1000010)) (List.mem_of_getElem? (i := 2) rfl)) dX7_found_5 ?_
  refine lv_iload_n hx hb dX7_found_8 rfl (lv_at hl 1 rfl) ?_
  refine lv_isub hx hb dX7_found_9 ?_
  refine lv_topi (fun x_1 ex_1 => ?_)
  exact wr_i (v := x_1) hx hb hr hlocks hS n (by exact ex_1) (hP.sub [0] rfl) (hD.sub [0] (by decide) rfl) dX7_found_10
set_option maxHeartbeats 4000000 in
set_option maxRecDepth 100000 in
theorem e_X7_foundNothing (l : Launch) (D : va_G) (cI cB cQ : ClassId) (sz : Nat) (h : Nat) (rw : Nat) (tp : Nat) (nw : Nat) (ac : Nat) (im : Nat) (fo : Nat) (ak : Nat) (fg : Int32) (n : Int32) : mi l yX7_foundNothing wsX7_foundNothing ({ frames := 0, cells := 0, slots := 0, locals := 0 }) D cI cB cQ [.ref h, .int n] sz [(h, .inr (6, [.ref rw, .ref tp, .ref nw, .ref ac, .ref im, .ref fo, .ref ak, .int fg]))] (fun (r : Int32) (u : Int32) => (r = n)) (fun u => [(h, .inr (6, [.ref rw, .ref tp, .ref nw, .ref ac, .ref im, .ref fo, .ref ak, .int u]))]) 0 0 := by
  refine wm_i (cc := cX7_foundNothing) (maxL := 2) (ret := (some .int)) (by decide) rfl (Nat.le_of_ble_eq_true rfl) ?_
  intro p e s m below meth c A ls hx hb hr hml hown hts hlocks hin hP hK hD hN hA hl hS
  have hown : s.vm.findClass RX7 = some m.cls := hown
  have hl : lv_has ls 2 [(0, .ref h), (1, .int n)] := hl
  change W p l e ({ frames := 0, cells := 0, slots := 0, locals := 0 }) s m ([.ref h, .int n] : List Value).toArray below meth c s.heap [] 0 0 (MQ below (va_Qi (fun (r : Int32) (u : Int32) => (r = n)) (fun u t => wb D A ((fun u => [(h, .inr (6, [.ref rw, .ref tp, .ref nw, .ref ac, .ref im, .ref fo, .ref ak, .int u]))]) u) t) A) ([.ref h, .int n] : List Value).toArray s 0 0 A) (F0 m 0 ls [])
  refine lv_aload_n hx hb dX7_foundNothing_0 rfl (lv_at hl 0 rfl) ?_
  refine lv_iconst (v := 0) hx hb dX7_foundNothing_1 (by decide) ?_
  refine va_put (D := D) (ci := 6) (v := .int 0) (ty := .int) (C := RX7) (T := TX7) (N := 8) hx hb hts (fun _ h => List.mem_cons_of_mem _ (List.mem_append_right _ h)) tyX7 tyX7_ok nmX7 hown hK hP hD hS 0 rfl rfl 7 (by decide) (hts (.fieldLink RX7 57 "WinterWalk" "finding" "I") (List.mem_of_getElem? (i := 1) rfl)) (fun _ h9 => h9) rfl (by decide +kernel) rfl rfl (Nat.le_of_ble_eq_true rfl) dX7_foundNothing_2 (fun H locs hP hD hS => ?_)
  have hP : va_P D kl [(h, .inr (6, [.ref rw, .ref tp, .ref nw, .ref ac, .ref im, .ref fo, .ref ak, .int 0]))] H := hP
  have hD : va_D A [(h, .inr (6, [.ref rw, .ref tp, .ref nw, .ref ac, .ref im, .ref fo, .ref ak, .int 0]))] := hD
  refine lv_iload_n hx hb dX7_foundNothing_5 rfl (lv_at hl 1 rfl) ?_
  exact wr_i (v := n) hx hb hr hlocks hS 0 (by exact rfl) (hP.sub [0] rfl) (hD.sub [0] (by decide) rfl) dX7_foundNothing_6
set_option maxHeartbeats 4000000 in
set_option maxRecDepth 100000 in
theorem e_X7_row (l : Launch) (D : va_G) (cI cB cQ : ClassId) (sz : Nat) (h : Nat) (rw : Nat) (tp : Nat) (nw : Nat) (ac : Nat) (im : Nat) (fo : Nat) (ak : Nat) (la : Nat) (sq : Nat) (ir : Nat) (fg : Int32) (a : Int32) (b : Int32) (n : Int32) (fl : Nat → Int32) (fs : Nat → Int32) (fi : Nat → Int32) (hs : ∀ j, j < 8 → 0 ≤ (fs j).toInt ∧ (fs j).toInt ≤ 40) : mi l yX7_row wsX7_row ({ frames := 3, cells := 0, slots := 0, locals := 69 }) D cI cB cQ [.ref h, .int a, .int b, .int n] sz [(h, .inr (6, [.ref rw, .ref tp, .ref nw, .ref ac, .ref im, .ref fo, .ref ak, .int fg])), (rw, .inr (4, [.ref la, .ref sq, .ref ir])), (la, .inl (cI, 8, .inl fl)), (sq, .inl (cI, 8, .inl fs)), (ir, .inl (cI, 320, .inl fi))] (fun (r : Int32) (u : Int32 × (Nat → Int32) × (Nat → Int32) × (Nat → Int32)) => (r = sp_row a b n) ∧ (∀ j, j < 8 → 0 ≤ (u.2.2.1 j).toInt ∧ (u.2.2.1 j).toInt ≤ 40)) (fun u => [(h, .inr (6, [.ref rw, .ref tp, .ref nw, .ref ac, .ref im, .ref fo, .ref ak, .int u.1])), (rw, .inr (4, [.ref la, .ref sq, .ref ir])), (la, .inl (cI, 8, .inl u.2.1)), (sq, .inl (cI, 8, .inl u.2.2.1)), (ir, .inl (cI, 320, .inl u.2.2.2))]) 0 0 := by
  refine wm_i (cc := cX7_row) (maxL := 4) (ret := (some .int)) (by decide) rfl (Nat.le_of_ble_eq_true rfl) ?_
  intro p e s m below meth c A ls hx hb hr hml hown hts hlocks hin hP hK hD hN hA hl hS
  have hown : s.vm.findClass RX7 = some m.cls := hown
  have hl : lv_has ls 4 [(0, .ref h), (1, .int a), (2, .int b), (3, .int n)] := hl
  change W p l e ({ frames := 3, cells := 0, slots := 0, locals := 69 }) s m ([.ref h, .int a, .int b, .int n] : List Value).toArray below meth c s.heap [] 0 0 (MQ below (va_Qi (fun (r : Int32) (u : Int32 × (Nat → Int32) × (Nat → Int32) × (Nat → Int32)) => (r = sp_row a b n) ∧ (∀ j, j < 8 → 0 ≤ (u.2.2.1 j).toInt ∧ (u.2.2.1 j).toInt ≤ 40)) (fun u t => wb D A ((fun u => [(h, .inr (6, [.ref rw, .ref tp, .ref nw, .ref ac, .ref im, .ref fo, .ref ak, .int u.1])), (rw, .inr (4, [.ref la, .ref sq, .ref ir])), (la, .inl (cI, 8, .inl u.2.1)), (sq, .inl (cI, 8, .inl u.2.2.1)), (ir, .inl (cI, 320, .inl u.2.2.2))]) u) t) A) ([.ref h, .int a, .int b, .int n] : List Value).toArray s 0 0 A) (F0 m 0 ls [])
  refine lv_iload_n hx hb dX7_row_0 rfl (lv_at hl 1 rfl) ?_
  have k_1 := (g_X5_isRow l D cI cB cQ s.heap.size a)
  refine wc_i (WC := []) (WR := [(h, .inr (6, [.ref rw, .ref tp, .ref nw, .ref ac, .ref im, .ref fo, .ref ak, .int fg])), (rw, .inr (4, [.ref la, .ref sq, .ref ir])), (la, .inl (cI, 8, .inl fl)), (sq, .inl (cI, 8, .inl fs)), (ir, .inl (cI, 320, .inl fi))]) (va_runS (As := [.int a]) (rest := []) ⟨hx, hb, hml, hown, hts⟩ k_1 (va_cwS 1 hts gX7_row_X5_isRow rfl rfl rfl (by decide +kernel) ⟨Nat.le_of_ble_eq_true rfl, Nat.le_of_ble_eq_true rfl⟩) (wp_S hP hK hD hN [] (by decide) rfl) rfl rfl hl.1 rfl (lv_room (Nat.le_of_ble_eq_true rfl)) dX7_row_1 ⟨Nat.le_of_ble_eq_true rfl, Nat.le_of_ble_eq_true rfl⟩) hP hD hS hA [] [0, 1, 2, 3, 4] rfl rfl (by decide) (by decide) (fun r_1 u_1 H locs hw_1 hP hD hS => ?_)
  clear k_1
  have hP : va_P D kl [(h, .inr (6, [.ref rw, .ref tp, .ref nw, .ref ac, .ref im, .ref fo, .ref ak, .int fg])), (rw, .inr (4, [.ref la, .ref sq, .ref ir])), (la, .inl (cI, 8, .inl fl)), (sq, .inl (cI, 8, .inl fs)), (ir, .inl (cI, 320, .inl fi))] H := hP
  have hD : va_D A [(h, .inr (6, [.ref rw, .ref tp, .ref nw, .ref ac, .ref im, .ref fo, .ref ak, .int fg])), (rw, .inr (4, [.ref la, .ref sq, .ref ir])), (la, .inl (cI, 8, .inl fl)), (sq, .inl (cI, 8, .inl fs)), (ir, .inl (cI, 320, .inl fi))] := hD
  have c1_0 := hw_1
  rcases c1_0 with ⟨e_1, f_1⟩ | ⟨e_1, f_1⟩
  · subst e_1
    have f_1 : 0 ≤ a.toInt ∧ a.toInt ≤ 7 := f_1
    refine lv_if_eq (tgt := 20) hx hb dX7_row_4 (by decide) (fun c9 => absurd c9 (by decide)) (fun _ => ?_)
    refine lv_iload_n hx hb dX7_row_7 rfl (lv_at hl 2 rfl) ?_
    have k_2 := (g_X5_isLane l D cI cB cQ H.size b)
    refine wc_i (WC := []) (WR := [(h, .inr (6, [.ref rw, .ref tp, .ref nw, .ref ac, .ref im, .ref fo, .ref ak, .int fg])), (rw, .inr (4, [.ref la, .ref sq, .ref ir])), (la, .inl (cI, 8, .inl fl)), (sq, .inl (cI, 8, .inl fs)), (ir, .inl (cI, 320, .inl fi))]) (va_runS (As := [.int b]) (rest := []) ⟨hx, hb, hml, hown, hts⟩ k_2 (va_cwS 1 hts gX7_row_X5_isLane rfl rfl rfl (by decide +kernel) ⟨Nat.le_of_ble_eq_true rfl, Nat.le_of_ble_eq_true rfl⟩) (wp_S hP hK hD hN [] (by decide) rfl) rfl rfl hl.1 rfl (lv_room (Nat.le_of_ble_eq_true rfl)) dX7_row_8 ⟨Nat.le_of_ble_eq_true rfl, Nat.le_of_ble_eq_true rfl⟩) hP hD hS hA [] [0, 1, 2, 3, 4] rfl rfl (by decide) (by decide) (fun r_2 u_2 H locs hw_2 hP hD hS => ?_)
    clear k_2
    have hP : va_P D kl [(h, .inr (6, [.ref rw, .ref tp, .ref nw, .ref ac, .ref im, .ref fo, .ref ak, .int fg])), (rw, .inr (4, [.ref la, .ref sq, .ref ir])), (la, .inl (cI, 8, .inl fl)), (sq, .inl (cI, 8, .inl fs)), (ir, .inl (cI, 320, .inl fi))] H := hP
    have hD : va_D A [(h, .inr (6, [.ref rw, .ref tp, .ref nw, .ref ac, .ref im, .ref fo, .ref ak, .int fg])), (rw, .inr (4, [.ref la, .ref sq, .ref ir])), (la, .inl (cI, 8, .inl fl)), (sq, .inl (cI, 8, .inl fs)), (ir, .inl (cI, 320, .inl fi))] := hD
    have c2_0 := hw_2
    rcases c2_0 with ⟨e_2, f_2⟩ | ⟨e_2, f_2⟩
    · subst e_2
      have f_2 : 0 ≤ b.toInt ∧ b.toInt ≤ 2 := f_2
      refine lv_if_eq (tgt := 20) hx hb dX7_row_11 (by decide) (fun c9 => absurd c9 (by decide)) (fun _ => ?_)
      refine lv_iload_n hx hb dX7_row_14 rfl (lv_at hl 3 rfl) ?_
      refine lv_bipush (v := 40) hx hb dX7_row_15 (by decide) ?_
      refine lv_icmp_le (tgt := 23) hx hb dX7_row_17 (by decide) (fun c_3 => ?_) (fun c_3 => ?_)
      · have f_3 : n.toInt ≤ 40 := zi_le c_3
        refine lv_iload_n hx hb dX7_row_23 rfl (lv_at hl 3 rfl) ?_
        refine lv_if_ge (tgt := 33) hx hb dX7_row_24 (by decide) (fun c_4 => ?_) (fun c_4 => ?_)
        · have f_4 : 0 ≤ n.toInt := zi_le c_4
          refine lv_aload_n hx hb dX7_row_33 rfl (lv_at hl 0 rfl) ?_
          refine va_get (D := D) (ci := 6) (v := .ref rw) (C := RX7) (T := TX7) (N := 8) hx hb hts (fun _ h => List.mem_cons_of_mem _ (List.mem_append_left _ (List.mem_append_right _ h))) hown hK hP 0 rfl rfl 0 (by decide) (hts (.fieldLink RX7 10 "WinterWalk" "rows" "LWinterWalk$Rows;") (List.mem_of_getElem? (i := 2) rfl)) (fun _ h9 => h9) rfl dX7_row_34 ?_
          refine lv_iload_n hx hb dX7_row_37 rfl (lv_at hl 1 rfl) ?_
          refine lv_iload_n hx hb dX7_row_38 rfl (lv_at hl 2 rfl) ?_
          refine lv_iload_n hx hb dX7_row_39 rfl (lv_at hl 3 rfl) ?_
          have k_5 := (g_X5_lay l D cI cB cQ H.size rw la sq ir a b n fl fs fi hs (by omega) (by omega))
          refine wc_v (WC := [(rw, .inr (4, [.ref la, .ref sq, .ref ir])), (la, .inl (cI, 8, .inl fl)), (sq, .inl (cI, 8, .inl fs)), (ir, .inl (cI, 320, .inl fi))]) (WR := [(h, .inr (6, [.ref rw, .ref tp, .ref nw, .ref ac, .ref im, .ref fo, .ref ak, .int fg]))]) (va_runV (As := [.int a, .int b, .int n]) (rest := []) ⟨hx, hb, hml, hown, hts⟩ k_5 (cwV 3 hts gX7_row_X5_lay rfl rfl rfl (by decide +kernel) ⟨Nat.le_of_ble_eq_true rfl, Nat.le_of_ble_eq_true rfl⟩) (wp_V hP hK hD hN [1, 2, 3, 4] (by decide) rfl (ci := 4) rfl rfl) rfl rfl hl.1 rfl (lv_room (Nat.le_of_ble_eq_true rfl)) dX7_row_40 ⟨Nat.le_of_ble_eq_true rfl, Nat.le_of_ble_eq_true rfl⟩) hP hD hS hA [1, 2, 3, 4] [0] rfl rfl (by decide) (by decide) (fun u_5 H locs hw_5 hP hD hS => ?_)
          clear k_5
          obtain ⟨v5_0, v5_1, v5_2⟩ := u_5
          have hP : va_P D kl [(h, .inr (6, [.ref rw, .ref tp, .ref nw, .ref ac, .ref im, .ref fo, .ref ak, .int fg])), (rw, .inr (4, [.ref la, .ref sq, .ref ir])), (la, .inl (cI, 8, .inl v5_0)), (sq, .inl (cI, 8, .inl v5_1)), (ir, .inl (cI, 320, .inl v5_2))] H := hP
          have hD : va_D A [(h, .inr (6, [.ref rw, .ref tp, .ref nw, .ref ac, .ref im, .ref fo, .ref ak, .int fg])), (rw, .inr (4, [.ref la, .ref sq, .ref ir])), (la, .inl (cI, 8, .inl v5_0)), (sq, .inl (cI, 8, .inl v5_1)), (ir, .inl (cI, 320, .inl v5_2))] := hD
          have c5_0 := hw_5
          have c5_0 : ∀ j, j < 8 → 0 ≤ (v5_1 j).toInt ∧ (v5_1 j).toInt ≤ 40 := c5_0
          refine lv_aload_n hx hb dX7_row_43 rfl (lv_at hl 0 rfl) ?_
          refine lv_iload_n hx hb dX7_row_44 rfl (lv_at hl 3 rfl) ?_
          have k_6 := (e_X7_foundNothing l D cI cB cQ H.size h rw tp nw ac im fo ak fg n)
          refine wc_i (WC := [(h, .inr (6, [.ref rw, .ref tp, .ref nw, .ref ac, .ref im, .ref fo, .ref ak, .int fg]))]) (WR := [(rw, .inr (4, [.ref la, .ref sq, .ref ir])), (la, .inl (cI, 8, .inl v5_0)), (sq, .inl (cI, 8, .inl v5_1)), (ir, .inl (cI, 320, .inl v5_2))]) (va_runV (As := [.int n]) (rest := []) ⟨hx, hb, hml, hown, hts⟩ k_6 (cwV 1 hts gX7_row_X7_foundNothing rfl rfl rfl (by decide +kernel) ⟨Nat.le_of_ble_eq_true rfl, Nat.le_of_ble_eq_true rfl⟩) (wp_V hP hK hD hN [0] (by decide) rfl (ci := 6) rfl rfl) rfl rfl hl.1 rfl (lv_room (Nat.le_of_ble_eq_true rfl)) dX7_row_45 ⟨Nat.le_of_ble_eq_true rfl, Nat.le_of_ble_eq_true rfl⟩) hP hD hS hA [0] [1, 2, 3, 4] rfl rfl (by decide) (by decide) (fun r_6 u_6 H locs hw_6 hP hD hS => ?_)
          clear k_6
          have hP : va_P D kl [(rw, .inr (4, [.ref la, .ref sq, .ref ir])), (la, .inl (cI, 8, .inl v5_0)), (sq, .inl (cI, 8, .inl v5_1)), (ir, .inl (cI, 320, .inl v5_2)), (h, .inr (6, [.ref rw, .ref tp, .ref nw, .ref ac, .ref im, .ref fo, .ref ak, .int u_6]))] H := hP
          have hD : va_D A [(rw, .inr (4, [.ref la, .ref sq, .ref ir])), (la, .inl (cI, 8, .inl v5_0)), (sq, .inl (cI, 8, .inl v5_1)), (ir, .inl (cI, 320, .inl v5_2)), (h, .inr (6, [.ref rw, .ref tp, .ref nw, .ref ac, .ref im, .ref fo, .ref ak, .int u_6]))] := hD
          have c6_0 := hw_6
          rw [c6_0]
          exact wr_i (v := n) hx hb hr hlocks hS (u_6, v5_0, v5_1, v5_2) (by exact ⟨(by unfold sp_row; (repeat' split) <;> first | rfl | (exfalso; omega)), c5_0⟩) (hP.sub [4, 0, 1, 2, 3] rfl) (hD.sub [4, 0, 1, 2, 3] (by decide) rfl) dX7_row_48
        · have f_4 : ¬ 0 ≤ n.toInt := zi_nle c_4
          refine lv_aload_n hx hb dX7_row_27 rfl (lv_at hl 0 rfl) ?_
          refine lv_iconst (v := 4) hx hb dX7_row_28 (by decide) ?_
          have k_7 := (e_X7_found l D cI cB cQ H.size h rw tp nw ac im fo ak fg 4)
          refine wc_i (WC := [(h, .inr (6, [.ref rw, .ref tp, .ref nw, .ref ac, .ref im, .ref fo, .ref ak, .int fg]))]) (WR := [(rw, .inr (4, [.ref la, .ref sq, .ref ir])), (la, .inl (cI, 8, .inl fl)), (sq, .inl (cI, 8, .inl fs)), (ir, .inl (cI, 320, .inl fi))]) (va_runV (As := [.int 4]) (rest := []) ⟨hx, hb, hml, hown, hts⟩ k_7 (cwV 1 hts gX7_row_X7_found rfl rfl rfl (by decide +kernel) ⟨Nat.le_of_ble_eq_true rfl, Nat.le_of_ble_eq_true rfl⟩) (wp_V hP hK hD hN [0] (by decide) rfl (ci := 6) rfl rfl) rfl rfl hl.1 rfl (lv_room (Nat.le_of_ble_eq_true rfl)) dX7_row_29 ⟨Nat.le_of_ble_eq_true rfl, Nat.le_of_ble_eq_true rfl⟩) hP hD hS hA [0] [1, 2, 3, 4] rfl rfl (by decide) (by decide) (fun r_7 u_7 H locs hw_7 hP hD hS => ?_)
          clear k_7
          have hP : va_P D kl [(rw, .inr (4, [.ref la, .ref sq, .ref ir])), (la, .inl (cI, 8, .inl fl)), (sq, .inl (cI, 8, .inl fs)), (ir, .inl (cI, 320, .inl fi)), (h, .inr (6, [.ref rw, .ref tp, .ref nw, .ref ac, .ref im, .ref fo, .ref ak, .int u_7]))] H := hP
          have hD : va_D A [(rw, .inr (4, [.ref la, .ref sq, .ref ir])), (la, .inl (cI, 8, .inl fl)), (sq, .inl (cI, 8, .inl fs)), (ir, .inl (cI, 320, .inl fi)), (h, .inr (6, [.ref rw, .ref tp, .ref nw, .ref ac, .ref im, .ref fo, .ref ak, .int u_7]))] := hD
          have c7_0 := hw_7
          obtain rfl : r_7 = (-1000014) := by first | exact c7_0 | exact c7_0.trans (by decide)
          exact wr_i (v := (-1000014)) hx hb hr hlocks hS (u_7, fl, fs, fi) (by exact ⟨(by unfold sp_row; (repeat' split) <;> first | rfl | (exfalso; omega)), hs⟩) (hP.sub [4, 0, 1, 2, 3] rfl) (hD.sub [4, 0, 1, 2, 3] (by decide) rfl) dX7_row_32
      · have f_3 : ¬ n.toInt ≤ 40 := zi_nle c_3
        refine lv_ldc (v := (-1000001)) hx hb hown (hts (.constant RX7 68 (-1000001)) (List.mem_of_getElem? (i := 1) rfl)) dX7_row_20 ?_
        exact wr_i (v := (-1000001)) hx hb hr hlocks hS (fg, fl, fs, fi) (by exact ⟨(by unfold sp_row; (repeat' split) <;> first | rfl | (exfalso; omega)), hs⟩) (hP.sub [0, 1, 2, 3, 4] rfl) (hD.sub [0, 1, 2, 3, 4] (by decide) rfl) dX7_row_22
    · subst e_2
      have f_2 : ¬ (0 ≤ b.toInt ∧ b.toInt ≤ 2) := f_2
      refine lv_if_eq (tgt := 20) hx hb dX7_row_11 (by decide) (fun _ => ?_) (fun c9 => absurd (by decide) c9)
      refine lv_ldc (v := (-1000001)) hx hb hown (hts (.constant RX7 68 (-1000001)) (List.mem_of_getElem? (i := 1) rfl)) dX7_row_20 ?_
      exact wr_i (v := (-1000001)) hx hb hr hlocks hS (fg, fl, fs, fi) (by exact ⟨(by unfold sp_row; (repeat' split) <;> first | rfl | (exfalso; omega)), hs⟩) (hP.sub [0, 1, 2, 3, 4] rfl) (hD.sub [0, 1, 2, 3, 4] (by decide) rfl) dX7_row_22
  · subst e_1
    have f_1 : ¬ (0 ≤ a.toInt ∧ a.toInt ≤ 7) := f_1
    refine lv_if_eq (tgt := 20) hx hb dX7_row_4 (by decide) (fun _ => ?_) (fun c9 => absurd (by decide) c9)
    refine lv_ldc (v := (-1000001)) hx hb hown (hts (.constant RX7 68 (-1000001)) (List.mem_of_getElem? (i := 1) rfl)) dX7_row_20 ?_
    exact wr_i (v := (-1000001)) hx hb hr hlocks hS (fg, fl, fs, fi) (by exact ⟨(by unfold sp_row; (repeat' split) <;> first | rfl | (exfalso; omega)), hs⟩) (hP.sub [0, 1, 2, 3, 4] rfl) (hD.sub [0, 1, 2, 3, 4] (by decide) rfl) dX7_row_22
set_option maxHeartbeats 4000000 in
set_option maxRecDepth 100000 in
theorem e_X8_finds (l : Launch) (D : va_G) (cI cB cQ : ClassId) (sz : Nat) (h : Nat) (sl : Nat) (zs : Nat) (ln : Nat) (ir : Nat) (tk : Nat) (tb : Nat) (tr : Nat) (fz : Nat) (na : Int32) (su : Int32) (le : Int32) (fu : Int32) (ap : Int32) (pp : Int32) (tc : Int32) (nm : Int32) (n : Int32) : mi l yX8_finds wsX8_finds ({ frames := 0, cells := 0, slots := 0, locals := 0 }) D cI cB cQ [.ref h, .int n] sz [(h, .inr (7, [.ref sl, .int na, .ref zs, .ref ln, .ref ir, .ref tk, .int su, .int le, .ref tb, .int fu, .int ap, .int pp, .ref tr, .int tc, .ref fz, .int nm]))] (fun (r : Int32) (u : Int32) => (r = (-1000010) - n)) (fun u => [(h, .inr (7, [.ref sl, .int na, .ref zs, .ref ln, .ref ir, .ref tk, .int u, .int le, .ref tb, .int fu, .int ap, .int pp, .ref tr, .int tc, .ref fz, .int nm]))]) 0 0 := by
  refine wm_i (cc := cX8_finds) (maxL := 2) (ret := (some .int)) (by decide) rfl (Nat.le_of_ble_eq_true rfl) ?_
  intro p e s m below meth c A ls hx hb hr hml hown hts hlocks hin hP hK hD hN hA hl hS
  have hown : s.vm.findClass RX8 = some m.cls := hown
  have hl : lv_has ls 2 [(0, .ref h), (1, .int n)] := hl
  change W p l e ({ frames := 0, cells := 0, slots := 0, locals := 0 }) s m ([.ref h, .int n] : List Value).toArray below meth c s.heap [] 0 0 (MQ below (va_Qi (fun (r : Int32) (u : Int32) => (r = (-1000010) - n)) (fun u t => wb D A ((fun u => [(h, .inr (7, [.ref sl, .int na, .ref zs, .ref ln, .ref ir, .ref tk, .int u, .int le, .ref tb, .int fu, .int ap, .int pp, .ref tr, .int tc, .ref fz, .int nm]))]) u) t) A) ([.ref h, .int n] : List Value).toArray s 0 0 A) (F0 m 0 ls [])
  refine lv_aload_n hx hb dX8_finds_0 rfl (lv_at hl 0 rfl) ?_
  refine lv_iload_n hx hb dX8_finds_1 rfl (lv_at hl 1 rfl) ?_
  refine va_put (D := D) (ci := 7) (v := .int n) (ty := .int) (C := RX8) (T := TX8) (N := 16) hx hb hts (fun _ h => List.mem_cons_of_mem _ (List.mem_append_right _ h)) tyX8 tyX8_ok nmX8 hown hK hP hD hS 0 rfl rfl 6 (by decide) (hts (.fieldLink RX8 35 "WinterWalkModel" "status" "I") (List.mem_of_getElem? (i := 1) rfl)) (fun _ h9 => h9) rfl (by decide +kernel) rfl rfl (Nat.le_of_ble_eq_true rfl) dX8_finds_2 (fun H locs hP hD hS => ?_)
  have hP : va_P D kl [(h, .inr (7, [.ref sl, .int na, .ref zs, .ref ln, .ref ir, .ref tk, .int n, .int le, .ref tb, .int fu, .int ap, .int pp, .ref tr, .int tc, .ref fz, .int nm]))] H := hP
  have hD : va_D A [(h, .inr (7, [.ref sl, .int na, .ref zs, .ref ln, .ref ir, .ref tk, .int n, .int le, .ref tb, .int fu, .int ap, .int pp, .ref tr, .int tc, .ref fz, .int nm]))] := hD
  refine lv_ldc (v := (-1000010)) hx hb hown (hts (.constant RX8 39 (-1000010)) (List.mem_of_getElem? (i := 2) rfl)) dX8_finds_5 ?_
  refine lv_iload_n hx hb dX8_finds_7 rfl (lv_at hl 1 rfl) ?_
  refine lv_isub hx hb dX8_finds_8 ?_
  refine lv_topi (fun x_1 ex_1 => ?_)
  exact wr_i (v := x_1) hx hb hr hlocks hS n (by exact ex_1) (hP.sub [0] rfl) (hD.sub [0] (by decide) rfl) dX8_finds_9
set_option maxHeartbeats 4000000 in
set_option maxRecDepth 100000 in
theorem e_X8_told (l : Launch) (D : va_G) (cI cB cQ : ClassId) (sz : Nat) (h : Nat) (sl : Nat) (zs : Nat) (ln : Nat) (ir : Nat) (tk : Nat) (tb : Nat) (tr : Nat) (fz : Nat) (na : Int32) (su : Int32) (le : Int32) (fu : Int32) (ap : Int32) (pp : Int32) (tc : Int32) (nm : Int32) (n : Int32) : mi l yX8_told wsX8_told ({ frames := 0, cells := 0, slots := 0, locals := 0 }) D cI cB cQ [.ref h, .int n] sz [(h, .inr (7, [.ref sl, .int na, .ref zs, .ref ln, .ref ir, .ref tk, .int su, .int le, .ref tb, .int fu, .int ap, .int pp, .ref tr, .int tc, .ref fz, .int nm]))] (fun (r : Int32) (u : Int32) => (r = n)) (fun u => [(h, .inr (7, [.ref sl, .int na, .ref zs, .ref ln, .ref ir, .ref tk, .int u, .int le, .ref tb, .int fu, .int ap, .int pp, .ref tr, .int tc, .ref fz, .int nm]))]) 0 0 := by
  refine wm_i (cc := cX8_told) (maxL := 2) (ret := (some .int)) (by decide) rfl (Nat.le_of_ble_eq_true rfl) ?_
  intro p e s m below meth c A ls hx hb hr hml hown hts hlocks hin hP hK hD hN hA hl hS
  have hown : s.vm.findClass RX8 = some m.cls := hown
  have hl : lv_has ls 2 [(0, .ref h), (1, .int n)] := hl
  change W p l e ({ frames := 0, cells := 0, slots := 0, locals := 0 }) s m ([.ref h, .int n] : List Value).toArray below meth c s.heap [] 0 0 (MQ below (va_Qi (fun (r : Int32) (u : Int32) => (r = n)) (fun u t => wb D A ((fun u => [(h, .inr (7, [.ref sl, .int na, .ref zs, .ref ln, .ref ir, .ref tk, .int u, .int le, .ref tb, .int fu, .int ap, .int pp, .ref tr, .int tc, .ref fz, .int nm]))]) u) t) A) ([.ref h, .int n] : List Value).toArray s 0 0 A) (F0 m 0 ls [])
  refine lv_aload_n hx hb dX8_told_0 rfl (lv_at hl 0 rfl) ?_
  refine lv_iconst (v := 0) hx hb dX8_told_1 (by decide) ?_
  refine va_put (D := D) (ci := 7) (v := .int 0) (ty := .int) (C := RX8) (T := TX8) (N := 16) hx hb hts (fun _ h => List.mem_cons_of_mem _ (List.mem_append_right _ h)) tyX8 tyX8_ok nmX8 hown hK hP hD hS 0 rfl rfl 6 (by decide) (hts (.fieldLink RX8 35 "WinterWalkModel" "status" "I") (List.mem_of_getElem? (i := 1) rfl)) (fun _ h9 => h9) rfl (by decide +kernel) rfl rfl (Nat.le_of_ble_eq_true rfl) dX8_told_2 (fun H locs hP hD hS => ?_)
  have hP : va_P D kl [(h, .inr (7, [.ref sl, .int na, .ref zs, .ref ln, .ref ir, .ref tk, .int 0, .int le, .ref tb, .int fu, .int ap, .int pp, .ref tr, .int tc, .ref fz, .int nm]))] H := hP
  have hD : va_D A [(h, .inr (7, [.ref sl, .int na, .ref zs, .ref ln, .ref ir, .ref tk, .int 0, .int le, .ref tb, .int fu, .int ap, .int pp, .ref tr, .int tc, .ref fz, .int nm]))] := hD
  refine lv_iload_n hx hb dX8_told_5 rfl (lv_at hl 1 rfl) ?_
  exact wr_i (v := n) hx hb hr hlocks hS 0 (by exact rfl) (hP.sub [0] rfl) (hD.sub [0] (by decide) rfl) dX8_told_6
set_option maxHeartbeats 4000000 in
set_option maxRecDepth 100000 in
theorem e_X8_row (l : Launch) (D : va_G) (cI cB cQ : ClassId) (sz : Nat) (h : Nat) (sl : Nat) (zs : Nat) (ln : Nat) (ir : Nat) (tk : Nat) (tb : Nat) (tr : Nat) (fz : Nat) (na : Int32) (su : Int32) (le : Int32) (fu : Int32) (ap : Int32) (pp : Int32) (tc : Int32) (nm : Int32) (a : Int32) (b : Int32) (n : Int32) (zf : Nat → Int32) (lnf : Nat → Int32) (irf : Nat → Int32) (hz : ∀ j, j < 8 → (-1) ≤ (zf j).toInt ∧ (zf j).toInt ≤ 40) : mi l yX8_row wsX8_row ({ frames := 1, cells := 0, slots := 0, locals := 25 }) D cI cB cQ [.ref h, .int a, .int b, .int n] sz [(h, .inr (7, [.ref sl, .int na, .ref zs, .ref ln, .ref ir, .ref tk, .int su, .int le, .ref tb, .int fu, .int ap, .int pp, .ref tr, .int tc, .ref fz, .int nm])), (zs, .inl (cI, 8, .inl zf)), (ln, .inl (cI, 8, .inl lnf)), (ir, .inl (cI, 320, .inl irf))] (fun (r : Int32) (u : Int32 × (Nat → Int32) × (Nat → Int32) × (Nat → Int32)) => (r = sp_row a b n) ∧ (∀ j, j < 8 → (-1) ≤ (u.2.1 j).toInt ∧ (u.2.1 j).toInt ≤ 40)) (fun u => [(h, .inr (7, [.ref sl, .int na, .ref zs, .ref ln, .ref ir, .ref tk, .int u.1, .int le, .ref tb, .int fu, .int ap, .int pp, .ref tr, .int tc, .ref fz, .int nm])), (zs, .inl (cI, 8, .inl u.2.1)), (ln, .inl (cI, 8, .inl u.2.2.1)), (ir, .inl (cI, 320, .inl u.2.2.2))]) 0 0 := by
  refine wm_i (cc := cX8_row) (maxL := 5) (ret := (some .int)) (by decide) rfl (Nat.le_of_ble_eq_true rfl) ?_
  intro p e s m below meth c A ls hx hb hr hml hown hts hlocks hin hP hK hD hN hA hl hS
  have hown : s.vm.findClass RX8 = some m.cls := hown
  have hl : lv_has ls 5 [(0, .ref h), (1, .int a), (2, .int b), (3, .int n)] := hl
  change W p l e ({ frames := 1, cells := 0, slots := 0, locals := 25 }) s m ([.ref h, .int a, .int b, .int n] : List Value).toArray below meth c s.heap [] 0 0 (MQ below (va_Qi (fun (r : Int32) (u : Int32 × (Nat → Int32) × (Nat → Int32) × (Nat → Int32)) => (r = sp_row a b n) ∧ (∀ j, j < 8 → (-1) ≤ (u.2.1 j).toInt ∧ (u.2.1 j).toInt ≤ 40)) (fun u t => wb D A ((fun u => [(h, .inr (7, [.ref sl, .int na, .ref zs, .ref ln, .ref ir, .ref tk, .int u.1, .int le, .ref tb, .int fu, .int ap, .int pp, .ref tr, .int tc, .ref fz, .int nm])), (zs, .inl (cI, 8, .inl u.2.1)), (ln, .inl (cI, 8, .inl u.2.2.1)), (ir, .inl (cI, 320, .inl u.2.2.2))]) u) t) A) ([.ref h, .int a, .int b, .int n] : List Value).toArray s 0 0 A) (F0 m 0 ls [])
  refine lv_iload_n hx hb dX8_row_0 rfl (lv_at hl 1 rfl) ?_
  refine lv_i2l (v := (a.toInt64)) hx hb dX8_row_1 rfl ?_
  refine lv_lconst (v := 0) hx hb dX8_row_2 (by decide) ?_
  refine lv_ldc2 (v := 7) hx hb hown (hts (.constantLong RX8 40 (7)) (List.mem_of_getElem? (i := 1) rfl)) dX8_row_3 ?_
  have k_1 := (g_X8_in l D cI cB cQ s.heap.size (a.toInt64) 0 7)
  refine wc_i (WC := []) (WR := [(h, .inr (7, [.ref sl, .int na, .ref zs, .ref ln, .ref ir, .ref tk, .int su, .int le, .ref tb, .int fu, .int ap, .int pp, .ref tr, .int tc, .ref fz, .int nm])), (zs, .inl (cI, 8, .inl zf)), (ln, .inl (cI, 8, .inl lnf)), (ir, .inl (cI, 320, .inl irf))]) (va_runS (As := [.long (a.toInt64), .long 0, .long 7]) (rest := []) ⟨hx, hb, hml, hown, hts⟩ k_1 (va_cwS 3 hts gX8_row_X8_in rfl rfl rfl (by decide +kernel) ⟨Nat.le_of_ble_eq_true rfl, Nat.le_of_ble_eq_true rfl⟩) (wp_S hP hK hD hN [] (by decide) rfl) rfl rfl hl.1 rfl (lv_room (Nat.le_of_ble_eq_true rfl)) dX8_row_6 ⟨Nat.le_of_ble_eq_true rfl, Nat.le_of_ble_eq_true rfl⟩) hP hD hS hA [] [0, 1, 2, 3] rfl rfl (by decide) (by decide) (fun r_1 u_1 H locs hw_1 hP hD hS => ?_)
  clear k_1
  have hP : va_P D kl [(h, .inr (7, [.ref sl, .int na, .ref zs, .ref ln, .ref ir, .ref tk, .int su, .int le, .ref tb, .int fu, .int ap, .int pp, .ref tr, .int tc, .ref fz, .int nm])), (zs, .inl (cI, 8, .inl zf)), (ln, .inl (cI, 8, .inl lnf)), (ir, .inl (cI, 320, .inl irf))] H := hP
  have hD : va_D A [(h, .inr (7, [.ref sl, .int na, .ref zs, .ref ln, .ref ir, .ref tk, .int su, .int le, .ref tb, .int fu, .int ap, .int pp, .ref tr, .int tc, .ref fz, .int nm])), (zs, .inl (cI, 8, .inl zf)), (ln, .inl (cI, 8, .inl lnf)), (ir, .inl (cI, 320, .inl irf))] := hD
  have c1_0 := hw_1
  rcases c1_0 with ⟨e_1, f_1⟩ | ⟨e_1, f_1⟩
  · subst e_1
    have f_1 : (0 : Int) ≤ a.toInt ∧ a.toInt ≤ (7 : Int) := by
      have h8 := f_1
      try simp only [zl_of] at h8
      exact h8
    refine lv_if_eq (tgt := 30) hx hb dX8_row_9 (by decide) (fun c9 => absurd c9 (by decide)) (fun _ => ?_)
    refine lv_iload_n hx hb dX8_row_12 rfl (lv_at hl 2 rfl) ?_
    refine lv_i2l (v := (b.toInt64)) hx hb dX8_row_13 rfl ?_
    refine lv_lconst (v := 0) hx hb dX8_row_14 (by decide) ?_
    refine lv_ldc2 (v := 2) hx hb hown (hts (.constantLong RX8 46 (2)) (List.mem_of_getElem? (i := 2) rfl)) dX8_row_15 ?_
    have k_2 := (g_X8_in l D cI cB cQ H.size (b.toInt64) 0 2)
    refine wc_i (WC := []) (WR := [(h, .inr (7, [.ref sl, .int na, .ref zs, .ref ln, .ref ir, .ref tk, .int su, .int le, .ref tb, .int fu, .int ap, .int pp, .ref tr, .int tc, .ref fz, .int nm])), (zs, .inl (cI, 8, .inl zf)), (ln, .inl (cI, 8, .inl lnf)), (ir, .inl (cI, 320, .inl irf))]) (va_runS (As := [.long (b.toInt64), .long 0, .long 2]) (rest := []) ⟨hx, hb, hml, hown, hts⟩ k_2 (va_cwS 3 hts gX8_row_X8_in rfl rfl rfl (by decide +kernel) ⟨Nat.le_of_ble_eq_true rfl, Nat.le_of_ble_eq_true rfl⟩) (wp_S hP hK hD hN [] (by decide) rfl) rfl rfl hl.1 rfl (lv_room (Nat.le_of_ble_eq_true rfl)) dX8_row_18 ⟨Nat.le_of_ble_eq_true rfl, Nat.le_of_ble_eq_true rfl⟩) hP hD hS hA [] [0, 1, 2, 3] rfl rfl (by decide) (by decide) (fun r_2 u_2 H locs hw_2 hP hD hS => ?_)
    clear k_2
    have hP : va_P D kl [(h, .inr (7, [.ref sl, .int na, .ref zs, .ref ln, .ref ir, .ref tk, .int su, .int le, .ref tb, .int fu, .int ap, .int pp, .ref tr, .int tc, .ref fz, .int nm])), (zs, .inl (cI, 8, .inl zf)), (ln, .inl (cI, 8, .inl lnf)), (ir, .inl (cI, 320, .inl irf))] H := hP
    have hD : va_D A [(h, .inr (7, [.ref sl, .int na, .ref zs, .ref ln, .ref ir, .ref tk, .int su, .int le, .ref tb, .int fu, .int ap, .int pp, .ref tr, .int tc, .ref fz, .int nm])), (zs, .inl (cI, 8, .inl zf)), (ln, .inl (cI, 8, .inl lnf)), (ir, .inl (cI, 320, .inl irf))] := hD
    have c2_0 := hw_2
    rcases c2_0 with ⟨e_2, f_2⟩ | ⟨e_2, f_2⟩
    · subst e_2
      have f_2 : (0 : Int) ≤ b.toInt ∧ b.toInt ≤ (2 : Int) := by
        have h8 := f_2
        try simp only [zl_of] at h8
        exact h8
      refine lv_if_eq (tgt := 30) hx hb dX8_row_21 (by decide) (fun c9 => absurd c9 (by decide)) (fun _ => ?_)
      refine lv_iload_n hx hb dX8_row_24 rfl (lv_at hl 3 rfl) ?_
      refine lv_bipush (v := 40) hx hb dX8_row_25 (by decide) ?_
      refine lv_icmp_le (tgt := 33) hx hb dX8_row_27 (by decide) (fun c_3 => ?_) (fun c_3 => ?_)
      · have f_3 : n.toInt ≤ 40 := zi_le c_3
        refine lv_iload_n hx hb dX8_row_33 rfl (lv_at hl 3 rfl) ?_
        refine lv_if_ge (tgt := 43) hx hb dX8_row_34 (by decide) (fun c_4 => ?_) (fun c_4 => ?_)
        · have f_4 : 0 ≤ n.toInt := zi_le c_4
          refine lv_aload_n hx hb dX8_row_43 rfl (lv_at hl 0 rfl) ?_
          refine va_get (D := D) (ci := 7) (v := .ref zs) (C := RX8) (T := TX8) (N := 16) hx hb hts (fun _ h => List.mem_cons_of_mem _ (List.mem_append_right _ h)) hown hK hP 0 rfl rfl 2 (by decide) (hts (.fieldLink RX8 13 "WinterWalkModel" "size" "[I") (List.mem_of_getElem? (i := 4) rfl)) (fun _ h9 => h9) rfl dX8_row_44 ?_
          refine lv_iload_n hx hb dX8_row_47 rfl (lv_at hl 1 rfl) ?_
          refine lv_iload_n hx hb dX8_row_48 rfl (lv_at hl 3 rfl) ?_
          refine va_iast hx hb hK hP hD hS 1 0 rfl rfl (zi_in (by omega) (by omega)) dX8_row_49 (fun H locs hP hD hS => ?_)
          have hP : va_P D kl [(h, .inr (7, [.ref sl, .int na, .ref zs, .ref ln, .ref ir, .ref tk, .int su, .int le, .ref tb, .int fu, .int ap, .int pp, .ref tr, .int tc, .ref fz, .int nm])), (zs, .inl (cI, 8, .inl (upd zf (a : Int32).toNatClampNeg n))), (ln, .inl (cI, 8, .inl lnf)), (ir, .inl (cI, 320, .inl irf))] H := hP
          have hD : va_D A [(h, .inr (7, [.ref sl, .int na, .ref zs, .ref ln, .ref ir, .ref tk, .int su, .int le, .ref tb, .int fu, .int ap, .int pp, .ref tr, .int tc, .ref fz, .int nm])), (zs, .inl (cI, 8, .inl (upd zf (a : Int32).toNatClampNeg n))), (ln, .inl (cI, 8, .inl lnf)), (ir, .inl (cI, 320, .inl irf))] := hD
          have ha_5 : ∀ j, j < 8 → (-1) ≤ ((upd zf (a : Int32).toNatClampNeg n) j).toInt ∧ ((upd zf (a : Int32).toNatClampNeg n) j).toInt ≤ 40 := zu_upd hz (by omega)
          refine lv_aload_n hx hb dX8_row_50 rfl (lv_at hl 0 rfl) ?_
          refine va_get (D := D) (ci := 7) (v := .ref ln) (C := RX8) (T := TX8) (N := 16) hx hb hts (fun _ h => List.mem_cons_of_mem _ (List.mem_append_right _ h)) hown hK hP 0 rfl rfl 3 (by decide) (hts (.fieldLink RX8 16 "WinterWalkModel" "lane" "[I") (List.mem_of_getElem? (i := 5) rfl)) (fun _ h9 => h9) rfl dX8_row_51 ?_
          refine lv_iload_n hx hb dX8_row_54 rfl (lv_at hl 1 rfl) ?_
          refine lv_iload_n hx hb dX8_row_55 rfl (lv_at hl 2 rfl) ?_
          refine va_iast hx hb hK hP hD hS 2 0 rfl rfl (zi_in (by omega) (by omega)) dX8_row_56 (fun H locs hP hD hS => ?_)
          have hP : va_P D kl [(h, .inr (7, [.ref sl, .int na, .ref zs, .ref ln, .ref ir, .ref tk, .int su, .int le, .ref tb, .int fu, .int ap, .int pp, .ref tr, .int tc, .ref fz, .int nm])), (zs, .inl (cI, 8, .inl (upd zf (a : Int32).toNatClampNeg n))), (ln, .inl (cI, 8, .inl (upd lnf (a : Int32).toNatClampNeg b))), (ir, .inl (cI, 320, .inl irf))] H := hP
          have hD : va_D A [(h, .inr (7, [.ref sl, .int na, .ref zs, .ref ln, .ref ir, .ref tk, .int su, .int le, .ref tb, .int fu, .int ap, .int pp, .ref tr, .int tc, .ref fz, .int nm])), (zs, .inl (cI, 8, .inl (upd zf (a : Int32).toNatClampNeg n))), (ln, .inl (cI, 8, .inl (upd lnf (a : Int32).toNatClampNeg b))), (ir, .inl (cI, 320, .inl irf))] := hD
          refine lv_iconst (v := 0) hx hb dX8_row_57 (by decide) ?_
          refine lv_istore (lv' := [(4, .int 0), (0, .ref h), (1, .int a), (2, .int b), (3, .int n)]) hx hb dX8_row_58 hl (by decide) rfl (fun ls hl => ?_)
          have hL60 : ∀ (nf : Nat) (t4_c60 : Int32) (g0_c60 : Nat → Int32) (H : Heap) (locs : List Loc) (ls : Array Slot), (0 ≤ t4_c60.toInt ∧ t4_c60.toInt ≤ 40) → (40 - t4_c60.toInt).toNat < nf → va_P D kl [(h, .inr (7, [.ref sl, .int na, .ref zs, .ref ln, .ref ir, .ref tk, .int su, .int le, .ref tb, .int fu, .int ap, .int pp, .ref tr, .int tc, .ref fz, .int nm])), (zs, .inl (cI, 8, .inl (upd zf (a : Int32).toNatClampNeg n))), (ln, .inl (cI, 8, .inl (upd lnf (a : Int32).toNatClampNeg b))), (ir, .inl (cI, 320, .inl g0_c60))] H → va_D A [(h, .inr (7, [.ref sl, .int na, .ref zs, .ref ln, .ref ir, .ref tk, .int su, .int le, .ref tb, .int fu, .int ap, .int pp, .ref tr, .int tc, .ref fz, .int nm])), (zs, .inl (cI, 8, .inl (upd zf (a : Int32).toNatClampNeg n))), (ln, .inl (cI, 8, .inl (upd lnf (a : Int32).toNatClampNeg b))), (ir, .inl (cI, 320, .inl g0_c60))] → va_S A s.heap H locs → lv_has ls 5 [(4, .int t4_c60), (0, .ref h), (1, .int a), (2, .int b), (3, .int n)] → W p l e ({ frames := 1, cells := 0, slots := 0, locals := 25 }) s m ([.ref h, .int a, .int b, .int n] : List Value).toArray below meth c H locs 0 0 (MQ below (va_Qi (fun (r : Int32) (u : Int32 × (Nat → Int32) × (Nat → Int32) × (Nat → Int32)) => (r = sp_row a b n) ∧ (∀ j, j < 8 → (-1) ≤ (u.2.1 j).toInt ∧ (u.2.1 j).toInt ≤ 40)) (fun u t => wb D A ((fun u => [(h, .inr (7, [.ref sl, .int na, .ref zs, .ref ln, .ref ir, .ref tk, .int u.1, .int le, .ref tb, .int fu, .int ap, .int pp, .ref tr, .int tc, .ref fz, .int nm])), (zs, .inl (cI, 8, .inl u.2.1)), (ln, .inl (cI, 8, .inl u.2.2.1)), (ir, .inl (cI, 320, .inl u.2.2.2))]) u) t) A) ([.ref h, .int a, .int b, .int n] : List Value).toArray s 0 0 A) (F0 m 60 ls []) := by
            intro nf
            induction nf with
            | zero =>
              intro t4_c60 g0_c60 H locs ls i_t4_c60 hm
              exact absurd hm (Nat.not_lt_zero _)
            | succ nf ih60 =>
              intro t4_c60 g0_c60 H locs ls i_t4_c60 hm60 hP hD hS hl
              refine lv_iload hx hb dX8_row_60 (lv_at hl 0 rfl) ?_
              refine lv_iload_n hx hb dX8_row_62 rfl (lv_at hl 4 rfl) ?_
              refine lv_icmp_ge (tgt := 85) hx hb dX8_row_63 (by decide) (fun c_6 => ?_) (fun c_6 => ?_)
              · have f_6 : n.toInt ≤ t4_c60.toInt := zi_le c_6
                refine lv_aload_n hx hb dX8_row_85 rfl (lv_at hl 1 rfl) ?_
                refine lv_iload_n hx hb dX8_row_86 rfl (lv_at hl 4 rfl) ?_
                have k_7 := (e_X8_told l D cI cB cQ H.size h sl zs ln ir tk tb tr fz na su le fu ap pp tc nm n)
                refine wc_i (WC := [(h, .inr (7, [.ref sl, .int na, .ref zs, .ref ln, .ref ir, .ref tk, .int su, .int le, .ref tb, .int fu, .int ap, .int pp, .ref tr, .int tc, .ref fz, .int nm]))]) (WR := [(zs, .inl (cI, 8, .inl (upd zf (a : Int32).toNatClampNeg n))), (ln, .inl (cI, 8, .inl (upd lnf (a : Int32).toNatClampNeg b))), (ir, .inl (cI, 320, .inl g0_c60))]) (va_runV (As := [.int n]) (rest := []) ⟨hx, hb, hml, hown, hts⟩ k_7 (cwV 1 hts gX8_row_X8_told rfl rfl rfl (by decide +kernel) ⟨Nat.le_of_ble_eq_true rfl, Nat.le_of_ble_eq_true rfl⟩) (wp_V hP hK hD hN [0] (by decide) rfl (ci := 7) rfl rfl) rfl rfl hl.1 rfl (lv_room (Nat.le_of_ble_eq_true rfl)) dX8_row_87 ⟨Nat.le_of_ble_eq_true rfl, Nat.le_of_ble_eq_true rfl⟩) hP hD hS hA [0] [1, 2, 3] rfl rfl (by decide) (by decide) (fun r_7 u_7 H locs hw_7 hP hD hS => ?_)
                clear k_7
                have hP : va_P D kl [(zs, .inl (cI, 8, .inl (upd zf (a : Int32).toNatClampNeg n))), (ln, .inl (cI, 8, .inl (upd lnf (a : Int32).toNatClampNeg b))), (ir, .inl (cI, 320, .inl g0_c60)), (h, .inr (7, [.ref sl, .int na, .ref zs, .ref ln, .ref ir, .ref tk, .int u_7, .int le, .ref tb, .int fu, .int ap, .int pp, .ref tr, .int tc, .ref fz, .int nm]))] H := hP
                have hD : va_D A [(zs, .inl (cI, 8, .inl (upd zf (a : Int32).toNatClampNeg n))), (ln, .inl (cI, 8, .inl (upd lnf (a : Int32).toNatClampNeg b))), (ir, .inl (cI, 320, .inl g0_c60)), (h, .inr (7, [.ref sl, .int na, .ref zs, .ref ln, .ref ir, .ref tk, .int u_7, .int le, .ref tb, .int fu, .int ap, .int pp, .ref tr, .int tc, .ref fz, .int nm]))] := hD
                have c7_0 := hw_7
                rw [c7_0]
                exact wr_i (v := n) hx hb hr hlocks hS (u_7, (upd zf (a : Int32).toNatClampNeg n), (upd lnf (a : Int32).toNatClampNeg b), g0_c60) (by exact ⟨(by unfold sp_row; (repeat' split) <;> first | rfl | (exfalso; omega)), ha_5⟩) (hP.sub [3, 0, 1, 2] rfl) (hD.sub [3, 0, 1, 2] (by decide) rfl) dX8_row_90
              · have f_6 : ¬ n.toInt ≤ t4_c60.toInt := zi_nle c_6
                refine lv_aload_n hx hb dX8_row_66 rfl (lv_at hl 1 rfl) ?_
                refine va_get (D := D) (ci := 7) (v := .ref ir) (C := RX8) (T := TX8) (N := 16) hx hb hts (fun _ h => List.mem_cons_of_mem _ (List.mem_append_right _ h)) hown hK hP 0 rfl rfl 4 (by decide) (hts (.fieldLink RX8 19 "WinterWalkModel" "items" "[I") (List.mem_of_getElem? (i := 6) rfl)) (fun _ h9 => h9) rfl dX8_row_67 ?_
                refine lv_bipush (v := 40) hx hb dX8_row_70 (by decide) ?_
                refine lv_iload_n hx hb dX8_row_72 rfl (lv_at hl 2 rfl) ?_
                refine lv_imul hx hb dX8_row_73 ?_
                refine lv_topi (fun x_8 ex_8 => ?_)
                have e_8 : x_8.toInt = 40 * a.toInt := by rw [ex_8]; exact zi_mul (by decide) (rfl) (by omega) (by omega)
                clear ex_8
                refine lv_iload hx hb dX8_row_74 (lv_at hl 0 rfl) ?_
                refine lv_iadd hx hb dX8_row_76 ?_
                refine lv_topi (fun x_9 ex_9 => ?_)
                have e_9 : x_9.toInt = x_8.toInt + t4_c60.toInt := by rw [ex_9]; exact zi_add (rfl) (rfl) (by omega) (by omega)
                clear ex_9
                refine lv_iconst (v := 0) hx hb dX8_row_77 (by decide) ?_
                refine va_iast hx hb hK hP hD hS 3 0 rfl rfl (zi_in (by omega) (by omega)) dX8_row_78 (fun H locs hP hD hS => ?_)
                have hP : va_P D kl [(h, .inr (7, [.ref sl, .int na, .ref zs, .ref ln, .ref ir, .ref tk, .int su, .int le, .ref tb, .int fu, .int ap, .int pp, .ref tr, .int tc, .ref fz, .int nm])), (zs, .inl (cI, 8, .inl (upd zf (a : Int32).toNatClampNeg n))), (ln, .inl (cI, 8, .inl (upd lnf (a : Int32).toNatClampNeg b))), (ir, .inl (cI, 320, .inl (upd g0_c60 (x_9 : Int32).toNatClampNeg 0)))] H := hP
                have hD : va_D A [(h, .inr (7, [.ref sl, .int na, .ref zs, .ref ln, .ref ir, .ref tk, .int su, .int le, .ref tb, .int fu, .int ap, .int pp, .ref tr, .int tc, .ref fz, .int nm])), (zs, .inl (cI, 8, .inl (upd zf (a : Int32).toNatClampNeg n))), (ln, .inl (cI, 8, .inl (upd lnf (a : Int32).toNatClampNeg b))), (ir, .inl (cI, 320, .inl (upd g0_c60 (x_9 : Int32).toNatClampNeg 0)))] := hD
                obtain ⟨x_10, ex_10⟩ : ∃ y : Int32, y = t4_c60 + Int32.ofInt 1 := ⟨_, rfl⟩
                refine lv_iinc (v := x_10) (lv' := [(4, .int x_10), (0, .ref h), (1, .int a), (2, .int b), (3, .int n)]) hx hb dX8_row_79 hl (k := 0) rfl ex_10.symm (by decide) rfl (fun ls hl => ?_)
                have ex_10 : x_10 = t4_c60 + 1 := ex_10
                have e_10 : x_10.toInt = t4_c60.toInt + 1 := by rw [ex_10]; exact zi_add (rfl) (by decide) (by omega) (by omega)
                clear ex_10
                refine lv_goto (tgt := 60) hx hb dX8_row_82 (by decide) ?_
                exact ih60 x_10 (upd g0_c60 (x_9 : Int32).toNatClampNeg 0) _ _ _ (show 0 ≤ x_10.toInt ∧ x_10.toInt ≤ 40 from by omega) (by omega) (hP.sub [0, 1, 2, 3] rfl) (hD.sub [0, 1, 2, 3] (by decide) rfl) hS (lv_sub hl [0, 1, 2, 3, 4] rfl)
          exact hL60 (((40 - (0 : Int32).toInt).toNat) + 1) 0 irf _ _ _ (show 0 ≤ 0 ∧ 0 ≤ 40 from by omega) (Nat.lt_succ_self _) (hP.sub [0, 1, 2, 3] rfl) (hD.sub [0, 1, 2, 3] (by decide) rfl) hS (lv_sub hl [0, 1, 2, 3, 4] rfl)
        · have f_4 : ¬ 0 ≤ n.toInt := zi_nle c_4
          refine lv_aload_n hx hb dX8_row_37 rfl (lv_at hl 0 rfl) ?_
          refine lv_iconst (v := 4) hx hb dX8_row_38 (by decide) ?_
          have k_11 := (e_X8_finds l D cI cB cQ H.size h sl zs ln ir tk tb tr fz na su le fu ap pp tc nm 4)
          refine wc_i (WC := [(h, .inr (7, [.ref sl, .int na, .ref zs, .ref ln, .ref ir, .ref tk, .int su, .int le, .ref tb, .int fu, .int ap, .int pp, .ref tr, .int tc, .ref fz, .int nm]))]) (WR := [(zs, .inl (cI, 8, .inl zf)), (ln, .inl (cI, 8, .inl lnf)), (ir, .inl (cI, 320, .inl irf))]) (va_runV (As := [.int 4]) (rest := []) ⟨hx, hb, hml, hown, hts⟩ k_11 (cwV 1 hts gX8_row_X8_finds rfl rfl rfl (by decide +kernel) ⟨Nat.le_of_ble_eq_true rfl, Nat.le_of_ble_eq_true rfl⟩) (wp_V hP hK hD hN [0] (by decide) rfl (ci := 7) rfl rfl) rfl rfl hl.1 rfl (lv_room (Nat.le_of_ble_eq_true rfl)) dX8_row_39 ⟨Nat.le_of_ble_eq_true rfl, Nat.le_of_ble_eq_true rfl⟩) hP hD hS hA [0] [1, 2, 3] rfl rfl (by decide) (by decide) (fun r_11 u_11 H locs hw_11 hP hD hS => ?_)
          clear k_11
          have hP : va_P D kl [(zs, .inl (cI, 8, .inl zf)), (ln, .inl (cI, 8, .inl lnf)), (ir, .inl (cI, 320, .inl irf)), (h, .inr (7, [.ref sl, .int na, .ref zs, .ref ln, .ref ir, .ref tk, .int u_11, .int le, .ref tb, .int fu, .int ap, .int pp, .ref tr, .int tc, .ref fz, .int nm]))] H := hP
          have hD : va_D A [(zs, .inl (cI, 8, .inl zf)), (ln, .inl (cI, 8, .inl lnf)), (ir, .inl (cI, 320, .inl irf)), (h, .inr (7, [.ref sl, .int na, .ref zs, .ref ln, .ref ir, .ref tk, .int u_11, .int le, .ref tb, .int fu, .int ap, .int pp, .ref tr, .int tc, .ref fz, .int nm]))] := hD
          have c11_0 := hw_11
          obtain rfl : r_11 = (-1000014) := by first | exact c11_0 | exact c11_0.trans (by decide)
          exact wr_i (v := (-1000014)) hx hb hr hlocks hS (u_11, zf, lnf, irf) (by exact ⟨(by unfold sp_row; (repeat' split) <;> first | rfl | (exfalso; omega)), hz⟩) (hP.sub [3, 0, 1, 2] rfl) (hD.sub [3, 0, 1, 2] (by decide) rfl) dX8_row_42
      · have f_3 : ¬ n.toInt ≤ 40 := zi_nle c_3
        refine lv_ldc (v := (-1000001)) hx hb hown (hts (.constant RX8 48 (-1000001)) (List.mem_of_getElem? (i := 3) rfl)) dX8_row_30 ?_
        exact wr_i (v := (-1000001)) hx hb hr hlocks hS (su, zf, lnf, irf) (by exact ⟨(by unfold sp_row; (repeat' split) <;> first | rfl | (exfalso; omega)), hz⟩) (hP.sub [0, 1, 2, 3] rfl) (hD.sub [0, 1, 2, 3] (by decide) rfl) dX8_row_32
    · subst e_2
      have f_2 : ¬ ((0 : Int) ≤ b.toInt ∧ b.toInt ≤ (2 : Int)) := by
        have h8 := f_2
        try simp only [zl_of] at h8
        exact h8
      refine lv_if_eq (tgt := 30) hx hb dX8_row_21 (by decide) (fun _ => ?_) (fun c9 => absurd (by decide) c9)
      refine lv_ldc (v := (-1000001)) hx hb hown (hts (.constant RX8 48 (-1000001)) (List.mem_of_getElem? (i := 3) rfl)) dX8_row_30 ?_
      exact wr_i (v := (-1000001)) hx hb hr hlocks hS (su, zf, lnf, irf) (by exact ⟨(by unfold sp_row; (repeat' split) <;> first | rfl | (exfalso; omega)), hz⟩) (hP.sub [0, 1, 2, 3] rfl) (hD.sub [0, 1, 2, 3] (by decide) rfl) dX8_row_32
  · subst e_1
    have f_1 : ¬ ((0 : Int) ≤ a.toInt ∧ a.toInt ≤ (7 : Int)) := by
      have h8 := f_1
      try simp only [zl_of] at h8
      exact h8
    refine lv_if_eq (tgt := 30) hx hb dX8_row_9 (by decide) (fun _ => ?_) (fun c9 => absurd (by decide) c9)
    refine lv_ldc (v := (-1000001)) hx hb hown (hts (.constant RX8 48 (-1000001)) (List.mem_of_getElem? (i := 3) rfl)) dX8_row_30 ?_
    exact wr_i (v := (-1000001)) hx hb hr hlocks hS (su, zf, lnf, irf) (by exact ⟨(by unfold sp_row; (repeat' split) <;> first | rfl | (exfalso; omega)), hz⟩) (hP.sub [0, 1, 2, 3] rfl) (hD.sub [0, 1, 2, 3] (by decide) rfl) dX8_row_32
