set_option maxHeartbeats 4000000 in
set_option maxRecDepth 100000 in
theorem p_X8_isRoad (l : Launch) (D : va_G) (cI cB cQ : ClassId) (sz : Nat) (h : Nat) (sl : Nat) (zs : Nat) (ln : Nat) (ir : Nat) (tk : Nat) (tb : Nat) (tr : Nat) (fz : Nat) (na : Int32) (su : Int32) (le : Int32) (fu : Int32) (ap : Int32) (pp : Int32) (tc : Int32) (nm : Int32) (sf : Nat → Int32) (tbf : Nat → Int32) (v0 : Int) (hsi : SI sf v0) (h_na : 0 ≤ na.toInt ∧ na.toInt ≤ 24) (h_le : 0 ≤ le.toInt ∧ le.toInt ≤ 120) (h_ap : 0 ≤ ap.toInt ∧ ap.toInt ≤ 120) (h_tc : 0 ≤ tc.toInt ∧ tc.toInt ≤ 16) (h_pp : 0 ≤ pp.toInt ∧ pp.toInt ≤ 120) (h_x : ap.toInt < le.toInt) (h_o : 0 ≤ (ur sf).2.1 ∧ (ur sf).2.1 ≤ 12) : mi l yX8_isRoad wsX8_isRoad ({ frames := 2, cells := 0, slots := 0, locals := 49 }) D cI cB cQ [.ref h] sz [(h, .inr (7, [.ref sl, .int na, .ref zs, .ref ln, .ref ir, .ref tk, .int su, .int le, .ref tb, .int fu, .int ap, .int pp, .ref tr, .int tc, .ref fz, .int nm])), (sl, .inl (cI, 1653, .inl sf)), (tb, .inl (cB, 120, .inl tbf))] (fun (r : Int32) (u : Int32 × Int32 × Int32 × Int32 × (Nat → Int32)) => ((r = 1 ∧ ((((0, u.1.toInt, u.2.2.1.toInt, u.2.1.toInt) : TPS), ur u.2.2.2.2) : TPT) = tpR (tbr tbf le.toInt) ((0, fu.toInt, pp.toInt, ap.toInt), ur sf) ∧ ap.toInt < u.2.1.toInt ∧ (ur u.2.2.2.2).1 = (ur sf).1 ∧ (ur u.2.2.2.2).2.1 = (ur sf).2.1 + 1 ∧ (ur sf).2.1 ≤ 11) ∨ (r = 0 ∧ tfa (tpR (tbr tbf le.toInt) ((0, fu.toInt, pp.toInt, ap.toInt), ur sf)).1 u.1.toInt u.2.2.1.toInt)) ∧ ((ap.toInt ≤ u.2.1.toInt)) ∧ (FRM (1596) (1653) sf u.2.2.2.2) ∧ (0 ≤ u.2.1.toInt ∧ u.2.1.toInt ≤ 120) ∧ (0 ≤ u.2.2.1.toInt ∧ u.2.2.1.toInt ≤ 120) ∧ (SI u.2.2.2.2 v0)) (fun u => [(h, .inr (7, [.ref sl, .int na, .ref zs, .ref ln, .ref ir, .ref tk, .int su, .int le, .ref tb, .int u.1, .int u.2.1, .int u.2.2.1, .ref tr, .int tc, .ref fz, .int u.2.2.2.1])), (sl, .inl (cI, 1653, .inl u.2.2.2.2)), (tb, .inl (cB, 120, .inl tbf))]) 0 0 := by
  refine wm_i (cc := cX8_isRoad) (maxL := 5) (ret := (some .boolean)) (by decide) rfl (Nat.le_of_ble_eq_true rfl) ?_
  intro p e s m below meth c A ls hx hb hr hml hown hts hlocks hin hP hK hD hN hA hl hS
  have hown : s.vm.findClass RX8 = some m.cls := hown
  have hl : lv_has ls 5 [(0, .ref h)] := hl
  change W p l e ({ frames := 2, cells := 0, slots := 0, locals := 49 }) s m ([.ref h] : List Value).toArray below meth c s.heap [] 0 0 (MQ below (va_Qi (fun (r : Int32) (u : Int32 × Int32 × Int32 × Int32 × (Nat → Int32)) => ((r = 1 ∧ ((((0, u.1.toInt, u.2.2.1.toInt, u.2.1.toInt) : TPS), ur u.2.2.2.2) : TPT) = tpR (tbr tbf le.toInt) ((0, fu.toInt, pp.toInt, ap.toInt), ur sf) ∧ ap.toInt < u.2.1.toInt ∧ (ur u.2.2.2.2).1 = (ur sf).1 ∧ (ur u.2.2.2.2).2.1 = (ur sf).2.1 + 1 ∧ (ur sf).2.1 ≤ 11) ∨ (r = 0 ∧ tfa (tpR (tbr tbf le.toInt) ((0, fu.toInt, pp.toInt, ap.toInt), ur sf)).1 u.1.toInt u.2.2.1.toInt)) ∧ ((ap.toInt ≤ u.2.1.toInt)) ∧ (FRM (1596) (1653) sf u.2.2.2.2) ∧ (0 ≤ u.2.1.toInt ∧ u.2.1.toInt ≤ 120) ∧ (0 ≤ u.2.2.1.toInt ∧ u.2.2.1.toInt ≤ 120) ∧ (SI u.2.2.2.2 v0)) (fun u t => wb D A ((fun u => [(h, .inr (7, [.ref sl, .int na, .ref zs, .ref ln, .ref ir, .ref tk, .int su, .int le, .ref tb, .int u.1, .int u.2.1, .int u.2.2.1, .ref tr, .int tc, .ref fz, .int u.2.2.2.1])), (sl, .inl (cI, 1653, .inl u.2.2.2.2)), (tb, .inl (cB, 120, .inl tbf))]) u) t) A) ([.ref h] : List Value).toArray s 0 0 A) (F0 m 0 ls [])
  refine lv_aload_n hx hb dX8_isRoad_0 rfl (lv_at hl 0 rfl) ?_
  refine va_get (D := D) (ci := 7) (v := .ref sl) (C := RX8) (T := TX8) (N := 16) hx hb hts (fun _ h => List.mem_cons_of_mem _ (List.mem_append_right _ h)) hown hK hP 0 rfl rfl 0 (by decide) (hts (.fieldLink RX8 7 "WinterWalkModel" "slot" "[I") (List.mem_of_getElem? (i := 1) rfl)) (fun _ h9 => h9) rfl dX8_isRoad_1 ?_
  refine lv_sipush (v := 1599) hx hb dX8_isRoad_4 (by decide) ?_
  refine va_iald hx hb hK hP 1 0 rfl rfl (zi_in (by decide) (by decide)) dX8_isRoad_7 ?_
  refine lv_topi (fun x_1 ex_1 => ?_)
  have u_1 : x_1.toInt = (ur sf).2.1 := by rw [ex_1]; exact ux_o
  refine lv_bipush (v := 12) hx hb dX8_isRoad_8 (by decide) ?_
  refine lv_icmp_ne (tgt := 23) hx hb dX8_isRoad_10 (by decide) (fun c_2 => ?_) (fun c_2 => ?_)
  · have f_2 : ¬ (ur sf).2.1 = 12 := by
      have h8 := zi_ne c_2
      try rw [u_1] at h8
      exact h8
    refine lv_aload_n hx hb dX8_isRoad_23 rfl (lv_at hl 0 rfl) ?_
    refine lv_dup hx hb dX8_isRoad_24 rfl ?_
    refine va_get (D := D) (ci := 7) (v := .int ap) (C := RX8) (T := TX8) (N := 16) hx hb hts (fun _ h => List.mem_cons_of_mem _ (List.mem_append_right _ h)) hown hK hP 0 rfl rfl 10 (by decide) (hts (.fieldLink RX8 62 "WinterWalkModel" "at" "I") (List.mem_of_getElem? (i := 2) rfl)) (fun _ h9 => h9) rfl dX8_isRoad_25 ?_
    refine lv_iconst (v := 1) hx hb dX8_isRoad_28 (by decide) ?_
    refine lv_iadd hx hb dX8_isRoad_29 ?_
    refine lv_topi (fun x_3 ex_3 => ?_)
    have e_3 : x_3.toInt = ap.toInt + 1 := by rw [ex_3]; exact zi_add (rfl) (by decide) (by omega) (by omega)
    refine va_put (D := D) (ci := 7) (v := .int x_3) (ty := .int) (C := RX8) (T := TX8) (N := 16) hx hb hts (fun _ h => List.mem_cons_of_mem _ (List.mem_append_right _ h)) tyX8 tyX8_ok nmX8 hown hK hP hD hS 0 rfl rfl 10 (by decide) (hts (.fieldLink RX8 62 "WinterWalkModel" "at" "I") (List.mem_of_getElem? (i := 2) rfl)) (fun _ h9 => h9) rfl (by decide +kernel) rfl rfl (Nat.le_of_ble_eq_true rfl) dX8_isRoad_30 (fun H locs hP hD hS => ?_)
    have hP : va_P D kl [(h, .inr (7, [.ref sl, .int na, .ref zs, .ref ln, .ref ir, .ref tk, .int su, .int le, .ref tb, .int fu, .int x_3, .int pp, .ref tr, .int tc, .ref fz, .int nm])), (sl, .inl (cI, 1653, .inl sf)), (tb, .inl (cB, 120, .inl tbf))] H := hP
    have hD : va_D A [(h, .inr (7, [.ref sl, .int na, .ref zs, .ref ln, .ref ir, .ref tk, .int su, .int le, .ref tb, .int fu, .int x_3, .int pp, .ref tr, .int tc, .ref fz, .int nm])), (sl, .inl (cI, 1653, .inl sf)), (tb, .inl (cB, 120, .inl tbf))] := hD
    refine lv_aload_n hx hb dX8_isRoad_33 rfl (lv_at hl 0 rfl) ?_
    refine va_get (D := D) (ci := 7) (v := .ref sl) (C := RX8) (T := TX8) (N := 16) hx hb hts (fun _ h => List.mem_cons_of_mem _ (List.mem_append_right _ h)) hown hK hP 0 rfl rfl 0 (by decide) (hts (.fieldLink RX8 7 "WinterWalkModel" "slot" "[I") (List.mem_of_getElem? (i := 1) rfl)) (fun _ h9 => h9) rfl dX8_isRoad_34 ?_
    refine lv_sipush (v := 1597) hx hb dX8_isRoad_37 (by decide) ?_
    refine va_iald hx hb hK hP 1 0 rfl rfl (zi_in (by decide) (by decide)) dX8_isRoad_40 ?_
    refine lv_topi (fun x_4 ex_4 => ?_)
    have f_4 : 0 ≤ x_4.toInt ∧ x_4.toInt ≤ 8 := by rw [ex_4]; exact si_v hsi (s := 28) (by decide) (by omega)
    have u_4 : x_4.toInt = (ur sf).1 := by rw [ex_4]; exact ux_v
    refine lv_iconst (v := 1) hx hb dX8_isRoad_41 (by decide) ?_
    refine lv_isub hx hb dX8_isRoad_42 ?_
    refine lv_topi (fun x_5 ex_5 => ?_)
    have e_5 : x_5.toInt = (ur sf).1 - 1 := by rw [ex_5]; exact zi_sub (u_4) (by decide) (by omega) (by omega)
    refine lv_istore_n (lv' := [(1, .int x_5), (0, .ref h)]) hx hb dX8_isRoad_43 rfl hl (by decide) rfl (fun ls hl => ?_)
    refine lv_aload_n hx hb dX8_isRoad_44 rfl (lv_at hl 1 rfl) ?_
    refine lv_iconst (v := 0) hx hb dX8_isRoad_45 (by decide) ?_
    refine lv_iload_n hx hb dX8_isRoad_46 rfl (lv_at hl 0 rfl) ?_
    have k_6 := (p_X8_isNumber l D cI cB cQ H.size h sl zs ln ir tk tb tr fz na su le fu x_3 pp tc nm 0 x_5 tbf (by omega) (by omega) (by omega) (by omega) (by omega))
    refine wc_i (WC := [(h, .inr (7, [.ref sl, .int na, .ref zs, .ref ln, .ref ir, .ref tk, .int su, .int le, .ref tb, .int fu, .int x_3, .int pp, .ref tr, .int tc, .ref fz, .int nm])), (tb, .inl (cB, 120, .inl tbf))]) (WR := [(sl, .inl (cI, 1653, .inl sf))]) (va_runV (As := [.int 0, .int x_5]) (rest := []) ⟨hx, hb, hml, hown, hts⟩ k_6 (cwV 2 hts gX8_isRoad_X8_isNumber rfl rfl rfl (by decide +kernel) ⟨Nat.le_of_ble_eq_true rfl, Nat.le_of_ble_eq_true rfl⟩) (wp_V hP hK hD hN [0, 2] (by decide) rfl (ci := 7) rfl rfl) rfl rfl hl.1 rfl (lv_room (Nat.le_of_ble_eq_true rfl)) dX8_isRoad_47 ⟨Nat.le_of_ble_eq_true rfl, Nat.le_of_ble_eq_true rfl⟩) hP hD hS hA [0, 2] [1] rfl rfl (by decide) (by decide) (fun r_6 => pe4 (fun v6_0 v6_1 v6_2 v6_3 H locs hw_6 hP hD hS => ?_))
    clear k_6
    have hP : va_P D kl [(sl, .inl (cI, 1653, .inl sf)), (h, .inr (7, [.ref sl, .int na, .ref zs, .ref ln, .ref ir, .ref tk, .int su, .int le, .ref tb, .int v6_0, .int v6_1, .int v6_2, .ref tr, .int tc, .ref fz, .int v6_3])), (tb, .inl (cB, 120, .inl tbf))] H := hP
    have hD : va_D A [(sl, .inl (cI, 1653, .inl sf)), (h, .inr (7, [.ref sl, .int na, .ref zs, .ref ln, .ref ir, .ref tk, .int su, .int le, .ref tb, .int v6_0, .int v6_1, .int v6_2, .ref tr, .int tc, .ref fz, .int v6_3])), (tb, .inl (cB, 120, .inl tbf))] := hD
    obtain ⟨c6_0, c6_1, c6_2, c6_3⟩ := hw_6
    have c6_1 : x_3.toInt ≤ v6_1.toInt := by
      have h8 := c6_1
      try rw [e_5] at h8
      exact h8
    have c6_2 : 0 ≤ v6_1.toInt ∧ v6_1.toInt ≤ 120 := c6_2
    have c6_3 : 0 ≤ v6_2.toInt ∧ v6_2.toInt ≤ 120 := c6_3
    rcases c6_0 with ⟨e_6, f_6⟩ | ⟨e_6, f_6⟩
    · subst e_6
      have f_6 : ((0, v6_0.toInt, v6_2.toInt, v6_1.toInt) : TPS) = tN (tbr tbf le.toInt) (0 : Int) ((ur sf).1 - 1) (0, fu.toInt, pp.toInt, x_3.toInt) ∧ v6_3.toInt = tV (tbr tbf le.toInt) (0 : Int) ((ur sf).1 - 1) (0, fu.toInt, pp.toInt, x_3.toInt) ∧ ((0 : Int) ≤ v6_3.toInt ∧ v6_3.toInt ≤ ((ur sf).1 - 1)) := by
        have h8 := f_6
        try rw [e_5] at h8
        exact h8
      refine lv_if_ne (tgt := 55) hx hb dX8_isRoad_50 (by decide) (fun _ => ?_) (fun c9 => absurd c9 (by decide))
      refine lv_aload_n hx hb dX8_isRoad_55 rfl (lv_at hl 1 rfl) ?_
      refine va_get (D := D) (ci := 7) (v := .int v6_3) (C := RX8) (T := TX8) (N := 16) hx hb hts (fun _ h => List.mem_cons_of_mem _ (List.mem_append_right _ h)) hown hK hP 1 rfl rfl 15 (by decide) (hts (.fieldLink RX8 83 "WinterWalkModel" "number" "I") (List.mem_of_getElem? (i := 3) rfl)) (fun _ h9 => h9) rfl dX8_isRoad_56 ?_
      refine lv_istore_n (lv' := [(2, .int v6_3), (1, .int x_5), (0, .ref h)]) hx hb dX8_isRoad_59 rfl hl (by decide) rfl (fun ls hl => ?_)
      refine lv_aload_n hx hb dX8_isRoad_60 rfl (lv_at hl 2 rfl) ?_
      refine lv_bipush (v := 44) hx hb dX8_isRoad_61 (by decide) ?_
      have k_7 := (p_X8_isSign l D cI cB cQ H.size h sl zs ln ir tk tb tr fz na su le v6_0 v6_1 v6_2 tc v6_3 44 tbf (by omega) (by omega) (by omega) (by omega) (by omega) ⟨by decide, by decide⟩)
      refine wc_i (WC := [(h, .inr (7, [.ref sl, .int na, .ref zs, .ref ln, .ref ir, .ref tk, .int su, .int le, .ref tb, .int v6_0, .int v6_1, .int v6_2, .ref tr, .int tc, .ref fz, .int v6_3])), (tb, .inl (cB, 120, .inl tbf))]) (WR := [(sl, .inl (cI, 1653, .inl sf))]) (va_runV (As := [.int 44]) (rest := []) ⟨hx, hb, hml, hown, hts⟩ k_7 (cwV 1 hts gX8_isRoad_X8_isSign rfl rfl rfl (by decide +kernel) ⟨Nat.le_of_ble_eq_true rfl, Nat.le_of_ble_eq_true rfl⟩) (wp_V hP hK hD hN [1, 2] (by decide) rfl (ci := 7) rfl rfl) rfl rfl hl.1 rfl (lv_room (Nat.le_of_ble_eq_true rfl)) dX8_isRoad_63 ⟨Nat.le_of_ble_eq_true rfl, Nat.le_of_ble_eq_true rfl⟩) hP hD hS hA [1, 2] [0] rfl rfl (by decide) (by decide) (fun r_7 => pe3 (fun v7_0 v7_1 v7_2 H locs hw_7 hP hD hS => ?_))
      clear k_7
      have hP : va_P D kl [(sl, .inl (cI, 1653, .inl sf)), (h, .inr (7, [.ref sl, .int na, .ref zs, .ref ln, .ref ir, .ref tk, .int su, .int le, .ref tb, .int v7_0, .int v7_1, .int v7_2, .ref tr, .int tc, .ref fz, .int v6_3])), (tb, .inl (cB, 120, .inl tbf))] H := hP
      have hD : va_D A [(sl, .inl (cI, 1653, .inl sf)), (h, .inr (7, [.ref sl, .int na, .ref zs, .ref ln, .ref ir, .ref tk, .int su, .int le, .ref tb, .int v7_0, .int v7_1, .int v7_2, .ref tr, .int tc, .ref fz, .int v6_3])), (tb, .inl (cB, 120, .inl tbf))] := hD
      obtain ⟨c7_0, c7_1, c7_2, c7_3⟩ := hw_7
      have c7_1 : v6_1.toInt ≤ v7_1.toInt := c7_1
      have c7_2 : 0 ≤ v7_1.toInt ∧ v7_1.toInt ≤ 120 := c7_2
      have c7_3 : 0 ≤ v7_2.toInt ∧ v7_2.toInt ≤ 120 := c7_3
      rcases c7_0 with ⟨e_7, f_7⟩ | ⟨e_7, f_7⟩
      · subst e_7
        have f_7 : ((0, v7_0.toInt, v7_2.toInt, v7_1.toInt) : TPS) = tS (tbr tbf le.toInt) (44 : Int) (0, v6_0.toInt, v6_2.toInt, v6_1.toInt) := f_7
        refine lv_if_ne (tgt := 71) hx hb dX8_isRoad_66 (by decide) (fun _ => ?_) (fun c9 => absurd c9 (by decide))
        refine lv_aload_n hx hb dX8_isRoad_71 rfl (lv_at hl 2 rfl) ?_
        refine va_get (D := D) (ci := 7) (v := .int v7_1) (C := RX8) (T := TX8) (N := 16) hx hb hts (fun _ h => List.mem_cons_of_mem _ (List.mem_append_right _ h)) hown hK hP 1 rfl rfl 10 (by decide) (hts (.fieldLink RX8 62 "WinterWalkModel" "at" "I") (List.mem_of_getElem? (i := 2) rfl)) (fun _ h9 => h9) rfl dX8_isRoad_72 ?_
        refine lv_istore_n (lv' := [(3, .int v7_1), (2, .int v6_3), (1, .int x_5), (0, .ref h)]) hx hb dX8_isRoad_75 rfl hl (by decide) rfl (fun ls hl => ?_)
        refine lv_aload_n hx hb dX8_isRoad_76 rfl (lv_at hl 3 rfl) ?_
        refine lv_iconst (v := 0) hx hb dX8_isRoad_77 (by decide) ?_
        refine lv_iload_n hx hb dX8_isRoad_78 rfl (lv_at hl 2 rfl) ?_
        have k_8 := (p_X8_isNumber l D cI cB cQ H.size h sl zs ln ir tk tb tr fz na su le v7_0 v7_1 v7_2 tc v6_3 0 x_5 tbf (by omega) (by omega) (by omega) (by omega) (by omega))
        refine wc_i (WC := [(h, .inr (7, [.ref sl, .int na, .ref zs, .ref ln, .ref ir, .ref tk, .int su, .int le, .ref tb, .int v7_0, .int v7_1, .int v7_2, .ref tr, .int tc, .ref fz, .int v6_3])), (tb, .inl (cB, 120, .inl tbf))]) (WR := [(sl, .inl (cI, 1653, .inl sf))]) (va_runV (As := [.int 0, .int x_5]) (rest := []) ⟨hx, hb, hml, hown, hts⟩ k_8 (cwV 2 hts gX8_isRoad_X8_isNumber rfl rfl rfl (by decide +kernel) ⟨Nat.le_of_ble_eq_true rfl, Nat.le_of_ble_eq_true rfl⟩) (wp_V hP hK hD hN [1, 2] (by decide) rfl (ci := 7) rfl rfl) rfl rfl hl.1 rfl (lv_room (Nat.le_of_ble_eq_true rfl)) dX8_isRoad_79 ⟨Nat.le_of_ble_eq_true rfl, Nat.le_of_ble_eq_true rfl⟩) hP hD hS hA [1, 2] [0] rfl rfl (by decide) (by decide) (fun r_8 => pe4 (fun v8_0 v8_1 v8_2 v8_3 H locs hw_8 hP hD hS => ?_))
        clear k_8
        have hP : va_P D kl [(sl, .inl (cI, 1653, .inl sf)), (h, .inr (7, [.ref sl, .int na, .ref zs, .ref ln, .ref ir, .ref tk, .int su, .int le, .ref tb, .int v8_0, .int v8_1, .int v8_2, .ref tr, .int tc, .ref fz, .int v8_3])), (tb, .inl (cB, 120, .inl tbf))] H := hP
        have hD : va_D A [(sl, .inl (cI, 1653, .inl sf)), (h, .inr (7, [.ref sl, .int na, .ref zs, .ref ln, .ref ir, .ref tk, .int su, .int le, .ref tb, .int v8_0, .int v8_1, .int v8_2, .ref tr, .int tc, .ref fz, .int v8_3])), (tb, .inl (cB, 120, .inl tbf))] := hD
        obtain ⟨c8_0, c8_1, c8_2, c8_3⟩ := hw_8
        have c8_1 : v7_1.toInt ≤ v8_1.toInt := by
          have h8 := c8_1
          try rw [e_5] at h8
          exact h8
        have c8_2 : 0 ≤ v8_1.toInt ∧ v8_1.toInt ≤ 120 := c8_2
        have c8_3 : 0 ≤ v8_2.toInt ∧ v8_2.toInt ≤ 120 := c8_3
        rcases c8_0 with ⟨e_8, f_8⟩ | ⟨e_8, f_8⟩
        · subst e_8
          have f_8 : ((0, v8_0.toInt, v8_2.toInt, v8_1.toInt) : TPS) = tN (tbr tbf le.toInt) (0 : Int) ((ur sf).1 - 1) (0, v7_0.toInt, v7_2.toInt, v7_1.toInt) ∧ v8_3.toInt = tV (tbr tbf le.toInt) (0 : Int) ((ur sf).1 - 1) (0, v7_0.toInt, v7_2.toInt, v7_1.toInt) ∧ ((0 : Int) ≤ v8_3.toInt ∧ v8_3.toInt ≤ ((ur sf).1 - 1)) := by
            have h8 := f_8
            try rw [e_5] at h8
            exact h8
          refine lv_if_ne (tgt := 87) hx hb dX8_isRoad_82 (by decide) (fun _ => ?_) (fun c9 => absurd c9 (by decide))
          refine lv_aload_n hx hb dX8_isRoad_87 rfl (lv_at hl 3 rfl) ?_
          refine va_get (D := D) (ci := 7) (v := .int v8_3) (C := RX8) (T := TX8) (N := 16) hx hb hts (fun _ h => List.mem_cons_of_mem _ (List.mem_append_right _ h)) hown hK hP 1 rfl rfl 15 (by decide) (hts (.fieldLink RX8 83 "WinterWalkModel" "number" "I") (List.mem_of_getElem? (i := 3) rfl)) (fun _ h9 => h9) rfl dX8_isRoad_88 ?_
          refine lv_istore (lv' := [(4, .int v8_3), (3, .int v7_1), (2, .int v6_3), (1, .int x_5), (0, .ref h)]) hx hb dX8_isRoad_91 hl (by decide) rfl (fun ls hl => ?_)
          refine lv_iload_n hx hb dX8_isRoad_93 rfl (lv_at hl 2 rfl) ?_
          refine lv_iload hx hb dX8_isRoad_94 (lv_at hl 0 rfl) ?_
          refine lv_icmp_eq (tgt := 117) hx hb dX8_isRoad_96 (by decide) (fun c_9 => ?_) (fun c_9 => ?_)
          · have f_9 : v6_3.toInt = v8_3.toInt := zi_eq c_9
            refine lv_aload_n hx hb dX8_isRoad_117 rfl (lv_at hl 4 rfl) ?_
            refine lv_iconst (v := 2) hx hb dX8_isRoad_118 (by decide) ?_
            refine lv_iload_n hx hb dX8_isRoad_119 rfl (lv_at hl 1 rfl) ?_
            have k_10 := (p_X8_fails l D cI cB cQ H.size h sl zs ln ir tk tb tr fz na su le v8_0 v8_1 v8_2 tc v8_3 2 v7_1 (by omega) (by omega))
            refine wc_i (WC := [(h, .inr (7, [.ref sl, .int na, .ref zs, .ref ln, .ref ir, .ref tk, .int su, .int le, .ref tb, .int v8_0, .int v8_1, .int v8_2, .ref tr, .int tc, .ref fz, .int v8_3]))]) (WR := [(sl, .inl (cI, 1653, .inl sf)), (tb, .inl (cB, 120, .inl tbf))]) (va_runV (As := [.int 2, .int v7_1]) (rest := []) ⟨hx, hb, hml, hown, hts⟩ k_10 (cwV 2 hts gX8_isRoad_X8_fails rfl rfl rfl (by decide +kernel) ⟨Nat.le_of_ble_eq_true rfl, Nat.le_of_ble_eq_true rfl⟩) (wp_V hP hK hD hN [1] (by decide) rfl (ci := 7) rfl rfl) rfl rfl hl.1 rfl (lv_room (Nat.le_of_ble_eq_true rfl)) dX8_isRoad_120 ⟨Nat.le_of_ble_eq_true rfl, Nat.le_of_ble_eq_true rfl⟩) hP hD hS hA [1] [0, 2] rfl rfl (by decide) (by decide) (fun r_10 => pe2 (fun v10_0 v10_1 H locs hw_10 hP hD hS => ?_))
            clear k_10
            have hP : va_P D kl [(sl, .inl (cI, 1653, .inl sf)), (tb, .inl (cB, 120, .inl tbf)), (h, .inr (7, [.ref sl, .int na, .ref zs, .ref ln, .ref ir, .ref tk, .int su, .int le, .ref tb, .int v10_0, .int v8_1, .int v10_1, .ref tr, .int tc, .ref fz, .int v8_3]))] H := hP
            have hD : va_D A [(sl, .inl (cI, 1653, .inl sf)), (tb, .inl (cB, 120, .inl tbf)), (h, .inr (7, [.ref sl, .int na, .ref zs, .ref ln, .ref ir, .ref tk, .int su, .int le, .ref tb, .int v10_0, .int v8_1, .int v10_1, .ref tr, .int tc, .ref fz, .int v8_3]))] := hD
            obtain ⟨c10_0, c10_1, c10_2⟩ := hw_10
            have c10_1 : v10_0.toInt = (2 : Int) ∧ v10_1.toInt = v7_1.toInt := c10_1
            have c10_2 : 0 ≤ v10_1.toInt ∧ v10_1.toInt ≤ 120 := c10_2
            have e_10 := c10_0
            · subst e_10
              exact wr_z (v := 0) hx hb hr hlocks hS (v10_0, v8_1, v10_1, v8_3, sf) (by exact ⟨Or.inr (⟨rfl, show tfa (tpR (tbr tbf le.toInt) ((0, fu.toInt, pp.toInt, ap.toInt), ur sf)).1 v10_0.toInt v10_1.toInt from by have hL : ((0, fu.toInt, pp.toInt, x_3.toInt) : TPS) = tL 1 (0, fu.toInt, pp.toInt, ap.toInt) := tL_1 (by decide) (by omega); show tfa (tpRx (tbr tbf le.toInt) (0, fu.toInt, pp.toInt, ap.toInt) (ur sf).1 (ur sf).2.1 (ur sf).2.2.2.1) _ _; exact tpRx_s4 (k := v7_1.toInt) (by omega) hL f_6.1 f_6.2.1 f_7 f_8.1 f_8.2.1 (fun h9 => absurd (show v6_3.toInt = v8_3.toInt from by omega) h9.1) rfl (by omega) (by omega)⟩), show (ap.toInt ≤ v8_1.toInt) from by omega, show FRM (1596) (1653) sf sf from FRM.refl, show 0 ≤ (v8_1 : Int32).toInt ∧ (v8_1 : Int32).toInt ≤ 120 from by omega, show 0 ≤ (v10_1 : Int32).toInt ∧ (v10_1 : Int32).toInt ≤ 120 from by omega, hsi⟩) (hP.sub [2, 0, 1] rfl) (hD.sub [2, 0, 1] (by decide) rfl) dX8_isRoad_123 rfl
          · have f_9 : ¬ v6_3.toInt = v8_3.toInt := zi_ne c_9
            refine lv_aload_n hx hb dX8_isRoad_99 rfl (lv_at hl 4 rfl) ?_
            refine va_get (D := D) (ci := 7) (v := .ref sl) (C := RX8) (T := TX8) (N := 16) hx hb hts (fun _ h => List.mem_cons_of_mem _ (List.mem_append_right _ h)) hown hK hP 1 rfl rfl 0 (by decide) (hts (.fieldLink RX8 7 "WinterWalkModel" "slot" "[I") (List.mem_of_getElem? (i := 1) rfl)) (fun _ h9 => h9) rfl dX8_isRoad_100 ?_
            refine lv_sipush (v := 1608) hx hb dX8_isRoad_103 (by decide) ?_
            refine lv_iload_n hx hb dX8_isRoad_106 rfl (lv_at hl 2 rfl) ?_
            refine lv_iadd hx hb dX8_isRoad_107 ?_
            refine lv_topi (fun x_11 ex_11 => ?_)
            have e_11 : x_11.toInt = 1608 + v6_3.toInt := by rw [ex_11]; exact zi_add (by decide) (rfl) (by omega) (by omega)
            refine va_iald hx hb hK hP 0 0 rfl rfl (zi_in (by omega) (by omega)) dX8_isRoad_108 ?_
            refine lv_topi (fun x_12 ex_12 => ?_)
            refine lv_iload hx hb dX8_isRoad_109 (lv_at hl 0 rfl) ?_
            have k_13 := (p_X8_has l D cI cB cQ H.size x_12 v8_3)
            refine wc_i (WC := []) (WR := [(sl, .inl (cI, 1653, .inl sf)), (h, .inr (7, [.ref sl, .int na, .ref zs, .ref ln, .ref ir, .ref tk, .int su, .int le, .ref tb, .int v8_0, .int v8_1, .int v8_2, .ref tr, .int tc, .ref fz, .int v8_3])), (tb, .inl (cB, 120, .inl tbf))]) (va_runS (As := [.int x_12, .int v8_3]) (rest := []) ⟨hx, hb, hml, hown, hts⟩ k_13 (va_cwS 2 hts gX8_isRoad_X8_has rfl rfl rfl (by decide +kernel) ⟨Nat.le_of_ble_eq_true rfl, Nat.le_of_ble_eq_true rfl⟩) (wp_S hP hK hD hN [] (by decide) rfl) rfl rfl hl.1 rfl (lv_room (Nat.le_of_ble_eq_true rfl)) dX8_isRoad_111 ⟨Nat.le_of_ble_eq_true rfl, Nat.le_of_ble_eq_true rfl⟩) hP hD hS hA [] [0, 1, 2] rfl rfl (by decide) (by decide) (fun r_13 u_13 H locs hw_13 hP hD hS => ?_)
            clear k_13
            have hP : va_P D kl [(sl, .inl (cI, 1653, .inl sf)), (h, .inr (7, [.ref sl, .int na, .ref zs, .ref ln, .ref ir, .ref tk, .int su, .int le, .ref tb, .int v8_0, .int v8_1, .int v8_2, .ref tr, .int tc, .ref fz, .int v8_3])), (tb, .inl (cB, 120, .inl tbf))] H := hP
            have hD : va_D A [(sl, .inl (cI, 1653, .inl sf)), (h, .inr (7, [.ref sl, .int na, .ref zs, .ref ln, .ref ir, .ref tk, .int su, .int le, .ref tb, .int v8_0, .int v8_1, .int v8_2, .ref tr, .int tc, .ref fz, .int v8_3])), (tb, .inl (cB, 120, .inl tbf))] := hD
            have c13_0 := hw_13
            rcases c13_0 with ⟨e_13, f_13⟩ | ⟨e_13, f_13⟩
            · subst e_13
              have f_13 : tbi x_12 v8_3.toInt = 1 := f_13
              refine lv_if_eq (tgt := 124) hx hb dX8_isRoad_114 (by decide) (fun c9 => absurd c9 (by decide)) (fun _ => ?_)
              refine lv_aload_n hx hb dX8_isRoad_117 rfl (lv_at hl 4 rfl) ?_
              refine lv_iconst (v := 2) hx hb dX8_isRoad_118 (by decide) ?_
              refine lv_iload_n hx hb dX8_isRoad_119 rfl (lv_at hl 1 rfl) ?_
              have k_14 := (p_X8_fails l D cI cB cQ H.size h sl zs ln ir tk tb tr fz na su le v8_0 v8_1 v8_2 tc v8_3 2 v7_1 (by omega) (by omega))
              refine wc_i (WC := [(h, .inr (7, [.ref sl, .int na, .ref zs, .ref ln, .ref ir, .ref tk, .int su, .int le, .ref tb, .int v8_0, .int v8_1, .int v8_2, .ref tr, .int tc, .ref fz, .int v8_3]))]) (WR := [(sl, .inl (cI, 1653, .inl sf)), (tb, .inl (cB, 120, .inl tbf))]) (va_runV (As := [.int 2, .int v7_1]) (rest := []) ⟨hx, hb, hml, hown, hts⟩ k_14 (cwV 2 hts gX8_isRoad_X8_fails rfl rfl rfl (by decide +kernel) ⟨Nat.le_of_ble_eq_true rfl, Nat.le_of_ble_eq_true rfl⟩) (wp_V hP hK hD hN [1] (by decide) rfl (ci := 7) rfl rfl) rfl rfl hl.1 rfl (lv_room (Nat.le_of_ble_eq_true rfl)) dX8_isRoad_120 ⟨Nat.le_of_ble_eq_true rfl, Nat.le_of_ble_eq_true rfl⟩) hP hD hS hA [1] [0, 2] rfl rfl (by decide) (by decide) (fun r_14 => pe2 (fun v14_0 v14_1 H locs hw_14 hP hD hS => ?_))
              clear k_14
              have hP : va_P D kl [(sl, .inl (cI, 1653, .inl sf)), (tb, .inl (cB, 120, .inl tbf)), (h, .inr (7, [.ref sl, .int na, .ref zs, .ref ln, .ref ir, .ref tk, .int su, .int le, .ref tb, .int v14_0, .int v8_1, .int v14_1, .ref tr, .int tc, .ref fz, .int v8_3]))] H := hP
              have hD : va_D A [(sl, .inl (cI, 1653, .inl sf)), (tb, .inl (cB, 120, .inl tbf)), (h, .inr (7, [.ref sl, .int na, .ref zs, .ref ln, .ref ir, .ref tk, .int su, .int le, .ref tb, .int v14_0, .int v8_1, .int v14_1, .ref tr, .int tc, .ref fz, .int v8_3]))] := hD
              obtain ⟨c14_0, c14_1, c14_2⟩ := hw_14
              have c14_1 : v14_0.toInt = (2 : Int) ∧ v14_1.toInt = v7_1.toInt := c14_1
              have c14_2 : 0 ≤ v14_1.toInt ∧ v14_1.toInt ≤ 120 := c14_2
              have e_14 := c14_0
              · subst e_14
                exact wr_z (v := 0) hx hb hr hlocks hS (v14_0, v8_1, v14_1, v8_3, sf) (by exact ⟨Or.inr (⟨rfl, show tfa (tpR (tbr tbf le.toInt) ((0, fu.toInt, pp.toInt, ap.toInt), ur sf)).1 v14_0.toInt v14_1.toInt from by have hL : ((0, fu.toInt, pp.toInt, x_3.toInt) : TPS) = tL 1 (0, fu.toInt, pp.toInt, ap.toInt) := tL_1 (by decide) (by omega); show tfa (tpRx (tbr tbf le.toInt) (0, fu.toInt, pp.toInt, ap.toInt) (ur sf).1 (ur sf).2.1 (ur sf).2.2.2.1) _ _; exact tpRx_s4 (k := v7_1.toInt) (by omega) hL f_6.1 f_6.2.1 f_7 f_8.1 f_8.2.1 (fun h9 => (by have h10 : tbi ((ur sf).2.2.2.1 v6_3.toInt.toNat) v8_3.toInt = 0 := h9.2; rw [ur_at (i := x_11) (by omega) (by omega), ← ex_12, f_13] at h10; exact absurd h10 (by decide))) rfl (by omega) (by omega)⟩), show (ap.toInt ≤ v8_1.toInt) from by omega, show FRM (1596) (1653) sf sf from FRM.refl, show 0 ≤ (v8_1 : Int32).toInt ∧ (v8_1 : Int32).toInt ≤ 120 from by omega, show 0 ≤ (v14_1 : Int32).toInt ∧ (v14_1 : Int32).toInt ≤ 120 from by omega, hsi⟩) (hP.sub [2, 0, 1] rfl) (hD.sub [2, 0, 1] (by decide) rfl) dX8_isRoad_123 rfl
            · subst e_13
              have f_13 : tbi x_12 v8_3.toInt = 0 := f_13
              refine lv_if_eq (tgt := 124) hx hb dX8_isRoad_114 (by decide) (fun _ => ?_) (fun c9 => absurd (by decide) c9)
              refine lv_aload_n hx hb dX8_isRoad_124 rfl (lv_at hl 4 rfl) ?_
              refine va_get (D := D) (ci := 7) (v := .ref sl) (C := RX8) (T := TX8) (N := 16) hx hb hts (fun _ h => List.mem_cons_of_mem _ (List.mem_append_right _ h)) hown hK hP 1 rfl rfl 0 (by decide) (hts (.fieldLink RX8 7 "WinterWalkModel" "slot" "[I") (List.mem_of_getElem? (i := 1) rfl)) (fun _ h9 => h9) rfl dX8_isRoad_125 ?_
              refine lv_sipush (v := 1608) hx hb dX8_isRoad_128 (by decide) ?_
              refine lv_iload_n hx hb dX8_isRoad_131 rfl (lv_at hl 2 rfl) ?_
              refine lv_iadd hx hb dX8_isRoad_132 ?_
              refine lv_topi (fun x_15 ex_15 => ?_)
              have e_15 : x_15.toInt = 1608 + v6_3.toInt := by rw [ex_15]; exact zi_add (by decide) (rfl) (by omega) (by omega)
              refine lv_dup2_11 hx hb dX8_isRoad_133 rfl rfl ?_
              refine va_iald hx hb hK hP 0 0 rfl rfl (zi_in (by omega) (by omega)) dX8_isRoad_134 ?_
              refine lv_topi (fun x_16 ex_16 => ?_)
              refine lv_iconst (v := 1) hx hb dX8_isRoad_135 (by decide) ?_
              refine lv_iload hx hb dX8_isRoad_136 (lv_at hl 0 rfl) ?_
              refine lv_ishl hx hb dX8_isRoad_138 ?_
              refine lv_topi (fun x_17 ex_17 => ?_)
              have e_17 : 1 ≤ x_17.toInt ∧ x_17.toInt ≤ 256 := by rw [ex_17]; exact zi_sh (by omega)
              refine lv_ior hx hb dX8_isRoad_139 ?_
              refine lv_topi (fun x_18 ex_18 => ?_)
              refine va_iast hx hb hK hP hD hS 0 0 rfl rfl (zi_in (by omega) (by omega)) dX8_isRoad_140 (fun H locs hP hD hS => ?_)
              have hP : va_P D kl [(sl, .inl (cI, 1653, .inl (upd sf (x_15 : Int32).toNatClampNeg x_18))), (h, .inr (7, [.ref sl, .int na, .ref zs, .ref ln, .ref ir, .ref tk, .int su, .int le, .ref tb, .int v8_0, .int v8_1, .int v8_2, .ref tr, .int tc, .ref fz, .int v8_3])), (tb, .inl (cB, 120, .inl tbf))] H := hP
              have hD : va_D A [(sl, .inl (cI, 1653, .inl (upd sf (x_15 : Int32).toNatClampNeg x_18))), (h, .inr (7, [.ref sl, .int na, .ref zs, .ref ln, .ref ir, .ref tk, .int su, .int le, .ref tb, .int v8_0, .int v8_1, .int v8_2, .ref tr, .int tc, .ref fz, .int v8_3])), (tb, .inl (cB, 120, .inl tbf))] := hD
              have ha_19 : SI (upd sf (x_15 : Int32).toNatClampNeg x_18) v0 := si_up hsi (by omega) (fun s0 a0 b0 e0 => by omega) (fun s0 a0 b0 e0 => by omega) (fun s0 k0 a0 b0 c0 d0 e0 => by omega) (by omega)
              have hf_20 : FRM (1596) (1653) sf (upd sf (x_15 : Int32).toNatClampNeg x_18) := FRM.up FRM.refl (by omega)
              refine lv_aload_n hx hb dX8_isRoad_141 rfl (lv_at hl 4 rfl) ?_
              refine va_get (D := D) (ci := 7) (v := .ref sl) (C := RX8) (T := TX8) (N := 16) hx hb hts (fun _ h => List.mem_cons_of_mem _ (List.mem_append_right _ h)) hown hK hP 1 rfl rfl 0 (by decide) (hts (.fieldLink RX8 7 "WinterWalkModel" "slot" "[I") (List.mem_of_getElem? (i := 1) rfl)) (fun _ h9 => h9) rfl dX8_isRoad_142 ?_
              refine lv_sipush (v := 1608) hx hb dX8_isRoad_145 (by decide) ?_
              refine lv_iload hx hb dX8_isRoad_148 (lv_at hl 0 rfl) ?_
              refine lv_iadd hx hb dX8_isRoad_150 ?_
              refine lv_topi (fun x_21 ex_21 => ?_)
              have e_21 : x_21.toInt = 1608 + v8_3.toInt := by rw [ex_21]; exact zi_add (by decide) (rfl) (by omega) (by omega)
              refine lv_dup2_11 hx hb dX8_isRoad_151 rfl rfl ?_
              refine va_iald hx hb hK hP 0 0 rfl rfl (zi_in (by omega) (by omega)) dX8_isRoad_152 ?_
              refine lv_topi (fun x_22 ex_22 => ?_)
              refine lv_iconst (v := 1) hx hb dX8_isRoad_153 (by decide) ?_
              refine lv_iload_n hx hb dX8_isRoad_154 rfl (lv_at hl 2 rfl) ?_
              refine lv_ishl hx hb dX8_isRoad_155 ?_
              refine lv_topi (fun x_23 ex_23 => ?_)
              have e_23 : 1 ≤ x_23.toInt ∧ x_23.toInt ≤ 256 := by rw [ex_23]; exact zi_sh (by omega)
              refine lv_ior hx hb dX8_isRoad_156 ?_
              refine lv_topi (fun x_24 ex_24 => ?_)
              refine va_iast hx hb hK hP hD hS 0 0 rfl rfl (zi_in (by omega) (by omega)) dX8_isRoad_157 (fun H locs hP hD hS => ?_)
              have hP : va_P D kl [(sl, .inl (cI, 1653, .inl (upd (upd sf (x_15 : Int32).toNatClampNeg x_18) (x_21 : Int32).toNatClampNeg x_24))), (h, .inr (7, [.ref sl, .int na, .ref zs, .ref ln, .ref ir, .ref tk, .int su, .int le, .ref tb, .int v8_0, .int v8_1, .int v8_2, .ref tr, .int tc, .ref fz, .int v8_3])), (tb, .inl (cB, 120, .inl tbf))] H := hP
              have hD : va_D A [(sl, .inl (cI, 1653, .inl (upd (upd sf (x_15 : Int32).toNatClampNeg x_18) (x_21 : Int32).toNatClampNeg x_24))), (h, .inr (7, [.ref sl, .int na, .ref zs, .ref ln, .ref ir, .ref tk, .int su, .int le, .ref tb, .int v8_0, .int v8_1, .int v8_2, .ref tr, .int tc, .ref fz, .int v8_3])), (tb, .inl (cB, 120, .inl tbf))] := hD
              have ha_25 : SI (upd (upd sf (x_15 : Int32).toNatClampNeg x_18) (x_21 : Int32).toNatClampNeg x_24) v0 := si_up ha_19 (by omega) (fun s0 a0 b0 e0 => by omega) (fun s0 a0 b0 e0 => by omega) (fun s0 k0 a0 b0 c0 d0 e0 => by omega) (by omega)
              have hf_26 : FRM (1596) (1653) sf (upd (upd sf (x_15 : Int32).toNatClampNeg x_18) (x_21 : Int32).toNatClampNeg x_24) := FRM.up hf_20 (by omega)
              refine lv_aload_n hx hb dX8_isRoad_158 rfl (lv_at hl 4 rfl) ?_
              refine va_get (D := D) (ci := 7) (v := .ref sl) (C := RX8) (T := TX8) (N := 16) hx hb hts (fun _ h => List.mem_cons_of_mem _ (List.mem_append_right _ h)) hown hK hP 1 rfl rfl 0 (by decide) (hts (.fieldLink RX8 7 "WinterWalkModel" "slot" "[I") (List.mem_of_getElem? (i := 1) rfl)) (fun _ h9 => h9) rfl dX8_isRoad_159 ?_
              refine lv_sipush (v := 1599) hx hb dX8_isRoad_162 (by decide) ?_
              refine lv_dup2_11 hx hb dX8_isRoad_165 rfl rfl ?_
              refine va_iald hx hb hK hP 0 0 rfl rfl (zi_in (by decide) (by decide)) dX8_isRoad_166 ?_
              refine lv_topi (fun x_27 ex_27 => ?_)
              have g_27 : x_27.toInt = x_1.toInt := by have hk0 : (1599 : Int32).toInt = 1599 := (by decide); rw [ex_27, zu_ne (by omega) (by omega) (by omega), zu_ne (by omega) (by omega) (by omega), ex_1]
              refine lv_iconst (v := 1) hx hb dX8_isRoad_167 (by decide) ?_
              refine lv_iadd hx hb dX8_isRoad_168 ?_
              refine lv_topi (fun x_28 ex_28 => ?_)
              have e_28 : x_28.toInt = x_27.toInt + 1 := by rw [ex_28]; exact zi_add (rfl) (by decide) (by omega) (by omega)
              refine va_iast hx hb hK hP hD hS 0 0 rfl rfl (zi_in (by decide) (by decide)) dX8_isRoad_169 (fun H locs hP hD hS => ?_)
              have hP : va_P D kl [(sl, .inl (cI, 1653, .inl (upd (upd (upd sf (x_15 : Int32).toNatClampNeg x_18) (x_21 : Int32).toNatClampNeg x_24) (1599 : Int32).toNatClampNeg x_28))), (h, .inr (7, [.ref sl, .int na, .ref zs, .ref ln, .ref ir, .ref tk, .int su, .int le, .ref tb, .int v8_0, .int v8_1, .int v8_2, .ref tr, .int tc, .ref fz, .int v8_3])), (tb, .inl (cB, 120, .inl tbf))] H := hP
              have hD : va_D A [(sl, .inl (cI, 1653, .inl (upd (upd (upd sf (x_15 : Int32).toNatClampNeg x_18) (x_21 : Int32).toNatClampNeg x_24) (1599 : Int32).toNatClampNeg x_28))), (h, .inr (7, [.ref sl, .int na, .ref zs, .ref ln, .ref ir, .ref tk, .int su, .int le, .ref tb, .int v8_0, .int v8_1, .int v8_2, .ref tr, .int tc, .ref fz, .int v8_3])), (tb, .inl (cB, 120, .inl tbf))] := hD
              have hq_29 : (1599 : Int32).toInt = 1599 := by decide
              have ha_29 : SI (upd (upd (upd sf (x_15 : Int32).toNatClampNeg x_18) (x_21 : Int32).toNatClampNeg x_24) (1599 : Int32).toNatClampNeg x_28) v0 := si_up ha_25 (by omega) (fun s0 a0 b0 e0 => by omega) (fun s0 a0 b0 e0 => by omega) (fun s0 k0 a0 b0 c0 d0 e0 => by omega) (by omega)
              have hi_30 : (1599 : Int32).toInt = 1599 := by decide
              have hf_30 : FRM (1596) (1653) sf (upd (upd (upd sf (x_15 : Int32).toNatClampNeg x_18) (x_21 : Int32).toNatClampNeg x_24) (1599 : Int32).toNatClampNeg x_28) := FRM.up hf_26 (by omega)
              refine lv_aload_n hx hb dX8_isRoad_170 rfl (lv_at hl 4 rfl) ?_
              refine lv_bipush (v := 59) hx hb dX8_isRoad_171 (by decide) ?_
              have k_31 := (p_X8_isSign l D cI cB cQ H.size h sl zs ln ir tk tb tr fz na su le v8_0 v8_1 v8_2 tc v8_3 59 tbf (by omega) (by omega) (by omega) (by omega) (by omega) ⟨by decide, by decide⟩)
              refine wc_i (WC := [(h, .inr (7, [.ref sl, .int na, .ref zs, .ref ln, .ref ir, .ref tk, .int su, .int le, .ref tb, .int v8_0, .int v8_1, .int v8_2, .ref tr, .int tc, .ref fz, .int v8_3])), (tb, .inl (cB, 120, .inl tbf))]) (WR := [(sl, .inl (cI, 1653, .inl (upd (upd (upd sf (x_15 : Int32).toNatClampNeg x_18) (x_21 : Int32).toNatClampNeg x_24) (1599 : Int32).toNatClampNeg x_28)))]) (va_runV (As := [.int 59]) (rest := []) ⟨hx, hb, hml, hown, hts⟩ k_31 (cwV 1 hts gX8_isRoad_X8_isSign rfl rfl rfl (by decide +kernel) ⟨Nat.le_of_ble_eq_true rfl, Nat.le_of_ble_eq_true rfl⟩) (wp_V hP hK hD hN [1, 2] (by decide) rfl (ci := 7) rfl rfl) rfl rfl hl.1 rfl (lv_room (Nat.le_of_ble_eq_true rfl)) dX8_isRoad_173 ⟨Nat.le_of_ble_eq_true rfl, Nat.le_of_ble_eq_true rfl⟩) hP hD hS hA [1, 2] [0] rfl rfl (by decide) (by decide) (fun r_31 => pe3 (fun v31_0 v31_1 v31_2 H locs hw_31 hP hD hS => ?_))
              clear k_31
              have hP : va_P D kl [(sl, .inl (cI, 1653, .inl (upd (upd (upd sf (x_15 : Int32).toNatClampNeg x_18) (x_21 : Int32).toNatClampNeg x_24) (1599 : Int32).toNatClampNeg x_28))), (h, .inr (7, [.ref sl, .int na, .ref zs, .ref ln, .ref ir, .ref tk, .int su, .int le, .ref tb, .int v31_0, .int v31_1, .int v31_2, .ref tr, .int tc, .ref fz, .int v8_3])), (tb, .inl (cB, 120, .inl tbf))] H := hP
              have hD : va_D A [(sl, .inl (cI, 1653, .inl (upd (upd (upd sf (x_15 : Int32).toNatClampNeg x_18) (x_21 : Int32).toNatClampNeg x_24) (1599 : Int32).toNatClampNeg x_28))), (h, .inr (7, [.ref sl, .int na, .ref zs, .ref ln, .ref ir, .ref tk, .int su, .int le, .ref tb, .int v31_0, .int v31_1, .int v31_2, .ref tr, .int tc, .ref fz, .int v8_3])), (tb, .inl (cB, 120, .inl tbf))] := hD
              obtain ⟨c31_0, c31_1, c31_2, c31_3⟩ := hw_31
              have c31_1 : v8_1.toInt ≤ v31_1.toInt := c31_1
              have c31_2 : 0 ≤ v31_1.toInt ∧ v31_1.toInt ≤ 120 := c31_2
              have c31_3 : 0 ≤ v31_2.toInt ∧ v31_2.toInt ≤ 120 := c31_3
              rcases c31_0 with ⟨e_31, f_31⟩ | ⟨e_31, f_31⟩
              · subst e_31
                have f_31 : ((0, v31_0.toInt, v31_2.toInt, v31_1.toInt) : TPS) = tS (tbr tbf le.toInt) (59 : Int) (0, v8_0.toInt, v8_2.toInt, v8_1.toInt) := f_31
                exact wr_z (v := 1) hx hb hr hlocks hS (v31_0, v31_1, v31_2, v8_3, (upd (upd (upd sf (x_15 : Int32).toNatClampNeg x_18) (x_21 : Int32).toNatClampNeg x_24) (1599 : Int32).toNatClampNeg x_28)) (by exact ⟨Or.inl ⟨rfl, show ((((0, v31_0.toInt, v31_2.toInt, v31_1.toInt) : TPS), ur (upd (upd (upd sf (x_15 : Int32).toNatClampNeg x_18) (x_21 : Int32).toNatClampNeg x_24) (1599 : Int32).toNatClampNeg x_28)) : TPT) = tpR (tbr tbf le.toInt) ((0, fu.toInt, pp.toInt, ap.toInt), ur sf) ∧ ap.toInt < v31_1.toInt ∧ (ur (upd (upd (upd sf (x_15 : Int32).toNatClampNeg x_18) (x_21 : Int32).toNatClampNeg x_24) (1599 : Int32).toNatClampNeg x_28)).1 = (ur sf).1 ∧ (ur (upd (upd (upd sf (x_15 : Int32).toNatClampNeg x_18) (x_21 : Int32).toNatClampNeg x_24) (1599 : Int32).toNatClampNeg x_28)).2.1 = (ur sf).2.1 + 1 ∧ (ur sf).2.1 ≤ 11 from by have hL : ((0, fu.toInt, pp.toInt, x_3.toInt) : TPS) = tL 1 (0, fu.toInt, pp.toInt, ap.toInt) := tL_1 (by decide) (by omega); have hu : ur (upd (upd (upd sf (x_15 : Int32).toNatClampNeg x_18) (x_21 : Int32).toNatClampNeg x_24) (1599 : Int32).toNatClampNeg x_28) = _ := ur_R3 hsi (a := v6_3) (b := v8_3) (by omega) (by omega) (by omega) (by omega) ex_17 (ex_18.trans (by rw [ex_16])) ex_23 (ex_24.trans (by rw [ex_22])) (by omega); obtain ⟨hT, ha, hb⟩ := tpRx_of (k := 1) (v := (ur sf).1) (r := (ur sf).2.1) (g := (ur sf).2.2.2.1) (if_pos (by omega)).symm hL f_6.1 f_6.2.1 f_7 f_8.1 f_8.2.1 (tpJ_y ⟨by omega, by rw [ur_at (i := x_11) (by omega) (by omega), ← ex_12]; exact f_13⟩).symm f_31; exact ⟨tpR_okr hT rfl (by rw [← ha, ← hb]; exact hu), by omega, ((congrArg (fun u : TPU => u.1) hu).trans rfl), ((congrArg (fun u : TPU => u.2.1) hu).trans rfl), by omega⟩⟩, show (ap.toInt ≤ v31_1.toInt) from by omega, show FRM (1596) (1653) sf (upd (upd (upd sf (x_15 : Int32).toNatClampNeg x_18) (x_21 : Int32).toNatClampNeg x_24) (1599 : Int32).toNatClampNeg x_28) from hf_30, show 0 ≤ (v31_1 : Int32).toInt ∧ (v31_1 : Int32).toInt ≤ 120 from by omega, show 0 ≤ (v31_2 : Int32).toInt ∧ (v31_2 : Int32).toInt ≤ 120 from by omega, ha_29⟩) (hP.sub [1, 0, 2] rfl) (hD.sub [1, 0, 2] (by decide) rfl) dX8_isRoad_176 rfl
              · subst e_31
                have f_31 : tfa (tS (tbr tbf le.toInt) (59 : Int) (0, v8_0.toInt, v8_2.toInt, v8_1.toInt)) v31_0.toInt v31_2.toInt := f_31
                exact wr_z (v := 0) hx hb hr hlocks hS (v31_0, v31_1, v31_2, v8_3, (upd (upd (upd sf (x_15 : Int32).toNatClampNeg x_18) (x_21 : Int32).toNatClampNeg x_24) (1599 : Int32).toNatClampNeg x_28)) (by exact ⟨Or.inr (⟨rfl, show tfa (tpR (tbr tbf le.toInt) ((0, fu.toInt, pp.toInt, ap.toInt), ur sf)).1 v31_0.toInt v31_2.toInt from by have hL : ((0, fu.toInt, pp.toInt, x_3.toInt) : TPS) = tL 1 (0, fu.toInt, pp.toInt, ap.toInt) := tL_1 (by decide) (by omega); show tfa (tpRx (tbr tbf le.toInt) (0, fu.toInt, pp.toInt, ap.toInt) (ur sf).1 (ur sf).2.1 (ur sf).2.2.2.1) _ _; exact tpRx_s5 (by omega) hL f_6.1 f_6.2.1 f_7 f_8.1 f_8.2.1 ⟨by omega, by rw [ur_at (i := x_11) (by omega) (by omega), ← ex_12]; exact f_13⟩ f_31⟩), show (ap.toInt ≤ v31_1.toInt) from by omega, show FRM (1596) (1653) sf (upd (upd (upd sf (x_15 : Int32).toNatClampNeg x_18) (x_21 : Int32).toNatClampNeg x_24) (1599 : Int32).toNatClampNeg x_28) from hf_30, show 0 ≤ (v31_1 : Int32).toInt ∧ (v31_1 : Int32).toInt ≤ 120 from by omega, show 0 ≤ (v31_2 : Int32).toInt ∧ (v31_2 : Int32).toInt ≤ 120 from by omega, ha_29⟩) (hP.sub [1, 0, 2] rfl) (hD.sub [1, 0, 2] (by decide) rfl) dX8_isRoad_176 rfl
        · subst e_8
          have f_8 : tfa (tN (tbr tbf le.toInt) (0 : Int) ((ur sf).1 - 1) (0, v7_0.toInt, v7_2.toInt, v7_1.toInt)) v8_0.toInt v8_2.toInt := by
            have h8 := f_8
            try rw [e_5] at h8
            exact h8
          refine lv_if_ne (tgt := 87) hx hb dX8_isRoad_82 (by decide) (fun c9 => absurd (by decide) c9) (fun _ => ?_)
          refine lv_iconst (v := 0) hx hb dX8_isRoad_85 (by decide) ?_
          exact wr_z (v := 0) hx hb hr hlocks hS (v8_0, v8_1, v8_2, v8_3, sf) (by exact ⟨Or.inr (⟨rfl, show tfa (tpR (tbr tbf le.toInt) ((0, fu.toInt, pp.toInt, ap.toInt), ur sf)).1 v8_0.toInt v8_2.toInt from by have hL : ((0, fu.toInt, pp.toInt, x_3.toInt) : TPS) = tL 1 (0, fu.toInt, pp.toInt, ap.toInt) := tL_1 (by decide) (by omega); show tfa (tpRx (tbr tbf le.toInt) (0, fu.toInt, pp.toInt, ap.toInt) (ur sf).1 (ur sf).2.1 (ur sf).2.2.2.1) _ _; exact tpRx_s3 (by omega) hL f_6.1 f_7 f_8⟩), show (ap.toInt ≤ v8_1.toInt) from by omega, show FRM (1596) (1653) sf sf from FRM.refl, show 0 ≤ (v8_1 : Int32).toInt ∧ (v8_1 : Int32).toInt ≤ 120 from by omega, show 0 ≤ (v8_2 : Int32).toInt ∧ (v8_2 : Int32).toInt ≤ 120 from by omega, hsi⟩) (hP.sub [1, 0, 2] rfl) (hD.sub [1, 0, 2] (by decide) rfl) dX8_isRoad_86 rfl
      · subst e_7
        have f_7 : tfa (tS (tbr tbf le.toInt) (44 : Int) (0, v6_0.toInt, v6_2.toInt, v6_1.toInt)) v7_0.toInt v7_2.toInt := f_7
        refine lv_if_ne (tgt := 71) hx hb dX8_isRoad_66 (by decide) (fun c9 => absurd (by decide) c9) (fun _ => ?_)
        refine lv_iconst (v := 0) hx hb dX8_isRoad_69 (by decide) ?_
        exact wr_z (v := 0) hx hb hr hlocks hS (v7_0, v7_1, v7_2, v6_3, sf) (by exact ⟨Or.inr (⟨rfl, show tfa (tpR (tbr tbf le.toInt) ((0, fu.toInt, pp.toInt, ap.toInt), ur sf)).1 v7_0.toInt v7_2.toInt from by have hL : ((0, fu.toInt, pp.toInt, x_3.toInt) : TPS) = tL 1 (0, fu.toInt, pp.toInt, ap.toInt) := tL_1 (by decide) (by omega); show tfa (tpRx (tbr tbf le.toInt) (0, fu.toInt, pp.toInt, ap.toInt) (ur sf).1 (ur sf).2.1 (ur sf).2.2.2.1) _ _; exact tpRx_s2 (by omega) hL f_6.1 f_7⟩), show (ap.toInt ≤ v7_1.toInt) from by omega, show FRM (1596) (1653) sf sf from FRM.refl, show 0 ≤ (v7_1 : Int32).toInt ∧ (v7_1 : Int32).toInt ≤ 120 from by omega, show 0 ≤ (v7_2 : Int32).toInt ∧ (v7_2 : Int32).toInt ≤ 120 from by omega, hsi⟩) (hP.sub [1, 0, 2] rfl) (hD.sub [1, 0, 2] (by decide) rfl) dX8_isRoad_70 rfl
    · subst e_6
      have f_6 : tfa (tN (tbr tbf le.toInt) (0 : Int) ((ur sf).1 - 1) (0, fu.toInt, pp.toInt, x_3.toInt)) v6_0.toInt v6_2.toInt := by
        have h8 := f_6
        try rw [e_5] at h8
        exact h8
      refine lv_if_ne (tgt := 55) hx hb dX8_isRoad_50 (by decide) (fun c9 => absurd (by decide) c9) (fun _ => ?_)
      refine lv_iconst (v := 0) hx hb dX8_isRoad_53 (by decide) ?_
      exact wr_z (v := 0) hx hb hr hlocks hS (v6_0, v6_1, v6_2, v6_3, sf) (by exact ⟨Or.inr (⟨rfl, show tfa (tpR (tbr tbf le.toInt) ((0, fu.toInt, pp.toInt, ap.toInt), ur sf)).1 v6_0.toInt v6_2.toInt from by have hL : ((0, fu.toInt, pp.toInt, x_3.toInt) : TPS) = tL 1 (0, fu.toInt, pp.toInt, ap.toInt) := tL_1 (by decide) (by omega); show tfa (tpRx (tbr tbf le.toInt) (0, fu.toInt, pp.toInt, ap.toInt) (ur sf).1 (ur sf).2.1 (ur sf).2.2.2.1) _ _; exact tpRx_s1 (by omega) hL f_6⟩), show (ap.toInt ≤ v6_1.toInt) from by omega, show FRM (1596) (1653) sf sf from FRM.refl, show 0 ≤ (v6_1 : Int32).toInt ∧ (v6_1 : Int32).toInt ≤ 120 from by omega, show 0 ≤ (v6_2 : Int32).toInt ∧ (v6_2 : Int32).toInt ≤ 120 from by omega, hsi⟩) (hP.sub [1, 0, 2] rfl) (hD.sub [1, 0, 2] (by decide) rfl) dX8_isRoad_54 rfl
  · have f_2 : (ur sf).2.1 = 12 := by
      have h8 := zi_eq c_2
      try rw [u_1] at h8
      exact h8
    refine lv_aload_n hx hb dX8_isRoad_13 rfl (lv_at hl 0 rfl) ?_
    refine lv_iconst (v := 3) hx hb dX8_isRoad_14 (by decide) ?_
    refine lv_aload_n hx hb dX8_isRoad_15 rfl (lv_at hl 0 rfl) ?_
    refine va_get (D := D) (ci := 7) (v := .int ap) (C := RX8) (T := TX8) (N := 16) hx hb hts (fun _ h => List.mem_cons_of_mem _ (List.mem_append_right _ h)) hown hK hP 0 rfl rfl 10 (by decide) (hts (.fieldLink RX8 62 "WinterWalkModel" "at" "I") (List.mem_of_getElem? (i := 2) rfl)) (fun _ h9 => h9) rfl dX8_isRoad_16 ?_
    have k_32 := (p_X8_fails l D cI cB cQ s.heap.size h sl zs ln ir tk tb tr fz na su le fu ap pp tc nm 3 ap (by omega) (by omega))
    refine wc_i (WC := [(h, .inr (7, [.ref sl, .int na, .ref zs, .ref ln, .ref ir, .ref tk, .int su, .int le, .ref tb, .int fu, .int ap, .int pp, .ref tr, .int tc, .ref fz, .int nm]))]) (WR := [(sl, .inl (cI, 1653, .inl sf)), (tb, .inl (cB, 120, .inl tbf))]) (va_runV (As := [.int 3, .int ap]) (rest := []) ⟨hx, hb, hml, hown, hts⟩ k_32 (cwV 2 hts gX8_isRoad_X8_fails rfl rfl rfl (by decide +kernel) ⟨Nat.le_of_ble_eq_true rfl, Nat.le_of_ble_eq_true rfl⟩) (wp_V hP hK hD hN [0] (by decide) rfl (ci := 7) rfl rfl) rfl rfl hl.1 rfl (lv_room (Nat.le_of_ble_eq_true rfl)) dX8_isRoad_19 ⟨Nat.le_of_ble_eq_true rfl, Nat.le_of_ble_eq_true rfl⟩) hP hD hS hA [0] [1, 2] rfl rfl (by decide) (by decide) (fun r_32 => pe2 (fun v32_0 v32_1 H locs hw_32 hP hD hS => ?_))
    clear k_32
    have hP : va_P D kl [(sl, .inl (cI, 1653, .inl sf)), (tb, .inl (cB, 120, .inl tbf)), (h, .inr (7, [.ref sl, .int na, .ref zs, .ref ln, .ref ir, .ref tk, .int su, .int le, .ref tb, .int v32_0, .int ap, .int v32_1, .ref tr, .int tc, .ref fz, .int nm]))] H := hP
    have hD : va_D A [(sl, .inl (cI, 1653, .inl sf)), (tb, .inl (cB, 120, .inl tbf)), (h, .inr (7, [.ref sl, .int na, .ref zs, .ref ln, .ref ir, .ref tk, .int su, .int le, .ref tb, .int v32_0, .int ap, .int v32_1, .ref tr, .int tc, .ref fz, .int nm]))] := hD
    obtain ⟨c32_0, c32_1, c32_2⟩ := hw_32
    have c32_1 : v32_0.toInt = (3 : Int) ∧ v32_1.toInt = ap.toInt := c32_1
    have c32_2 : 0 ≤ v32_1.toInt ∧ v32_1.toInt ≤ 120 := c32_2
    have e_32 := c32_0
    · subst e_32
      exact wr_z (v := 0) hx hb hr hlocks hS (v32_0, ap, v32_1, nm, sf) (by exact ⟨Or.inr (⟨rfl, show tfa (tpR (tbr tbf le.toInt) ((0, fu.toInt, pp.toInt, ap.toInt), ur sf)).1 v32_0.toInt v32_1.toInt from by show tfa (tpRx (tbr tbf le.toInt) (0, fu.toInt, pp.toInt, ap.toInt) (ur sf).1 (ur sf).2.1 (ur sf).2.2.2.1) _ _; exact tpRx_s0 (by omega) (by omega) (by omega)⟩), show (ap.toInt ≤ ap.toInt) from by omega, show FRM (1596) (1653) sf sf from FRM.refl, show 0 ≤ (ap : Int32).toInt ∧ (ap : Int32).toInt ≤ 120 from by omega, show 0 ≤ (v32_1 : Int32).toInt ∧ (v32_1 : Int32).toInt ≤ 120 from by omega, hsi⟩) (hP.sub [2, 0, 1] rfl) (hD.sub [2, 0, 1] (by decide) rfl) dX8_isRoad_22 rfl
