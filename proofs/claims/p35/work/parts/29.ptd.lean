set_option maxHeartbeats 4000000 in
set_option maxRecDepth 100000 in
theorem t_X8_begins_11_0 (l : Launch) (D : va_G) (cI cB cQ : ClassId) (sz : Nat) (h : Nat) (sl : Nat) (zs : Nat) (ln : Nat) (ir : Nat) (tk : Nat) (tb : Nat) (tr : Nat) (fz : Nat) (na : Int32) (su : Int32) (le : Int32) (fu : Int32) (ap : Int32) (pp : Int32) (nm : Int32) (trf : Nat → Int32) (h_na : 0 ≤ na.toInt ∧ na.toInt ≤ 24) (h_le : 0 ≤ le.toInt ∧ le.toInt ≤ 120) (h_ap : 0 ≤ ap.toInt ∧ ap.toInt ≤ 120) (h_pp : 0 ≤ pp.toInt ∧ pp.toInt ≤ 120) : mv l yX8_begins wsX8_begins ({ frames := 0, cells := 0, slots := 0, locals := 0 }) D cI cB cQ [.ref h, .int 11] sz [(h, .inr (7, [.ref sl, .int na, .ref zs, .ref ln, .ref ir, .ref tk, .int su, .int le, .ref tb, .int fu, .int ap, .int pp, .ref tr, .int 0, .ref fz, .int nm])), (tr, .inl (cI, 16, .inl trf))] (fun (_u : Unit) => True) (fun _ => [(h, .inr (7, [.ref sl, .int na, .ref zs, .ref ln, .ref ir, .ref tk, .int su, .int le, .ref tb, .int fu, .int ap, .int pp, .ref tr, .int 1, .ref fz, .int nm])), (tr, .inl (cI, 16, .inl (upd trf (0 : Int32).toNatClampNeg 11)))]) 0 0 := by
  refine wm_v (cc := cX8_begins) (maxL := 2) (ret := none) (by decide) rfl (Nat.le_of_ble_eq_true rfl) ?_
  intro p e s m below meth c A ls hx hb hr hml hown hts hlocks hin hP hK hD hN hA hl hS
  have hown : s.vm.findClass RX8 = some m.cls := hown
  have hl : lv_has ls 2 [(0, .ref h), (1, .int 11)] := hl
  change W p l e ({ frames := 0, cells := 0, slots := 0, locals := 0 }) s m ([.ref h, .int 11] : List Value).toArray below meth c s.heap [] 0 0 (MQ below (va_Qv (fun (_u : Unit) => True) (fun u t => wb D A ((fun _ => [(h, .inr (7, [.ref sl, .int na, .ref zs, .ref ln, .ref ir, .ref tk, .int su, .int le, .ref tb, .int fu, .int ap, .int pp, .ref tr, .int 1, .ref fz, .int nm])), (tr, .inl (cI, 16, .inl (upd trf (0 : Int32).toNatClampNeg 11)))]) u) t) A) ([.ref h, .int 11] : List Value).toArray s 0 0 A) (F0 m 0 ls [])
  refine lv_aload_n hx hb dX8_begins_0 rfl (lv_at hl 0 rfl) ?_
  refine va_get (D := D) (ci := 7) (v := .int 0) (C := RX8) (T := TX8) (N := 16) hx hb hts (fun _ h => List.mem_cons_of_mem _ (List.mem_append_right _ h)) hown hK hP 0 rfl rfl 13 (by decide) (hts (.fieldLink RX8 208 "WinterWalkModel" "traced" "I") (List.mem_of_getElem? (i := 1) rfl)) (fun _ h9 => h9) rfl dX8_begins_1 ?_
  refine lv_bipush (v := 16) hx hb dX8_begins_4 (by decide) ?_
  refine lv_icmp_ge (tgt := 29) hx hb dX8_begins_6 (by decide) (fun c9 => absurd c9 (by decide)) (fun _ => ?_)
  refine lv_aload_n hx hb dX8_begins_9 rfl (lv_at hl 0 rfl) ?_
  refine va_get (D := D) (ci := 7) (v := .ref tr) (C := RX8) (T := TX8) (N := 16) hx hb hts (fun _ h => List.mem_cons_of_mem _ (List.mem_append_right _ h)) hown hK hP 0 rfl rfl 12 (by decide) (hts (.fieldLink RX8 29 "WinterWalkModel" "trace" "[I") (List.mem_of_getElem? (i := 2) rfl)) (fun _ h9 => h9) rfl dX8_begins_10 ?_
  refine lv_aload_n hx hb dX8_begins_13 rfl (lv_at hl 0 rfl) ?_
  refine va_get (D := D) (ci := 7) (v := .int 0) (C := RX8) (T := TX8) (N := 16) hx hb hts (fun _ h => List.mem_cons_of_mem _ (List.mem_append_right _ h)) hown hK hP 0 rfl rfl 13 (by decide) (hts (.fieldLink RX8 208 "WinterWalkModel" "traced" "I") (List.mem_of_getElem? (i := 1) rfl)) (fun _ h9 => h9) rfl dX8_begins_14 ?_
  refine lv_iload_n hx hb dX8_begins_17 rfl (lv_at hl 1 rfl) ?_
  refine va_iast hx hb hK hP hD hS 1 0 rfl rfl (zi_in (by decide) (by decide)) dX8_begins_18 (fun H locs hP hD hS => ?_)
  have hP : va_P D kl [(h, .inr (7, [.ref sl, .int na, .ref zs, .ref ln, .ref ir, .ref tk, .int su, .int le, .ref tb, .int fu, .int ap, .int pp, .ref tr, .int 0, .ref fz, .int nm])), (tr, .inl (cI, 16, .inl (upd trf (0 : Int32).toNatClampNeg 11)))] H := hP
  have hD : va_D A [(h, .inr (7, [.ref sl, .int na, .ref zs, .ref ln, .ref ir, .ref tk, .int su, .int le, .ref tb, .int fu, .int ap, .int pp, .ref tr, .int 0, .ref fz, .int nm])), (tr, .inl (cI, 16, .inl (upd trf (0 : Int32).toNatClampNeg 11)))] := hD
  refine lv_aload_n hx hb dX8_begins_19 rfl (lv_at hl 0 rfl) ?_
  refine lv_dup hx hb dX8_begins_20 rfl ?_
  refine va_get (D := D) (ci := 7) (v := .int 0) (C := RX8) (T := TX8) (N := 16) hx hb hts (fun _ h => List.mem_cons_of_mem _ (List.mem_append_right _ h)) hown hK hP 0 rfl rfl 13 (by decide) (hts (.fieldLink RX8 208 "WinterWalkModel" "traced" "I") (List.mem_of_getElem? (i := 1) rfl)) (fun _ h9 => h9) rfl dX8_begins_21 ?_
  refine lv_iconst (v := 1) hx hb dX8_begins_24 (by decide) ?_
  refine lv_iadd hx hb dX8_begins_25 ?_
  refine lv_topi (fun x_1 ex_1 => ?_)
  obtain rfl : x_1 = 1 := ex_1.trans (by decide)
  refine va_put (D := D) (ci := 7) (v := .int 1) (ty := .int) (C := RX8) (T := TX8) (N := 16) hx hb hts (fun _ h => List.mem_cons_of_mem _ (List.mem_append_right _ h)) tyX8 tyX8_ok nmX8 hown hK hP hD hS 0 rfl rfl 13 (by decide) (hts (.fieldLink RX8 208 "WinterWalkModel" "traced" "I") (List.mem_of_getElem? (i := 1) rfl)) (fun _ h9 => h9) rfl (by decide +kernel) rfl rfl (Nat.le_of_ble_eq_true rfl) dX8_begins_26 (fun H locs hP hD hS => ?_)
  have hP : va_P D kl [(h, .inr (7, [.ref sl, .int na, .ref zs, .ref ln, .ref ir, .ref tk, .int su, .int le, .ref tb, .int fu, .int ap, .int pp, .ref tr, .int 1, .ref fz, .int nm])), (tr, .inl (cI, 16, .inl (upd trf (0 : Int32).toNatClampNeg 11)))] H := hP
  have hD : va_D A [(h, .inr (7, [.ref sl, .int na, .ref zs, .ref ln, .ref ir, .ref tk, .int su, .int le, .ref tb, .int fu, .int ap, .int pp, .ref tr, .int 1, .ref fz, .int nm])), (tr, .inl (cI, 16, .inl (upd trf (0 : Int32).toNatClampNeg 11)))] := hD
  exact wr_v hx hb hr hlocks hS () (by trivial) (hP.sub [0, 1] rfl) (hD.sub [0, 1] (by decide) rfl) dX8_begins_29
set_option maxHeartbeats 4000000 in
set_option maxRecDepth 100000 in
theorem t_X8_begins_10_1 (l : Launch) (D : va_G) (cI cB cQ : ClassId) (sz : Nat) (h : Nat) (sl : Nat) (zs : Nat) (ln : Nat) (ir : Nat) (tk : Nat) (tb : Nat) (tr : Nat) (fz : Nat) (na : Int32) (su : Int32) (le : Int32) (fu : Int32) (ap : Int32) (pp : Int32) (nm : Int32) (trf : Nat → Int32) (h_na : 0 ≤ na.toInt ∧ na.toInt ≤ 24) (h_le : 0 ≤ le.toInt ∧ le.toInt ≤ 120) (h_ap : 0 ≤ ap.toInt ∧ ap.toInt ≤ 120) (h_pp : 0 ≤ pp.toInt ∧ pp.toInt ≤ 120) : mv l yX8_begins wsX8_begins ({ frames := 0, cells := 0, slots := 0, locals := 0 }) D cI cB cQ [.ref h, .int 10] sz [(h, .inr (7, [.ref sl, .int na, .ref zs, .ref ln, .ref ir, .ref tk, .int su, .int le, .ref tb, .int fu, .int ap, .int pp, .ref tr, .int 1, .ref fz, .int nm])), (tr, .inl (cI, 16, .inl trf))] (fun (_u : Unit) => True) (fun _ => [(h, .inr (7, [.ref sl, .int na, .ref zs, .ref ln, .ref ir, .ref tk, .int su, .int le, .ref tb, .int fu, .int ap, .int pp, .ref tr, .int 2, .ref fz, .int nm])), (tr, .inl (cI, 16, .inl (upd trf (1 : Int32).toNatClampNeg 10)))]) 0 0 := by
  refine wm_v (cc := cX8_begins) (maxL := 2) (ret := none) (by decide) rfl (Nat.le_of_ble_eq_true rfl) ?_
  intro p e s m below meth c A ls hx hb hr hml hown hts hlocks hin hP hK hD hN hA hl hS
  have hown : s.vm.findClass RX8 = some m.cls := hown
  have hl : lv_has ls 2 [(0, .ref h), (1, .int 10)] := hl
  change W p l e ({ frames := 0, cells := 0, slots := 0, locals := 0 }) s m ([.ref h, .int 10] : List Value).toArray below meth c s.heap [] 0 0 (MQ below (va_Qv (fun (_u : Unit) => True) (fun u t => wb D A ((fun _ => [(h, .inr (7, [.ref sl, .int na, .ref zs, .ref ln, .ref ir, .ref tk, .int su, .int le, .ref tb, .int fu, .int ap, .int pp, .ref tr, .int 2, .ref fz, .int nm])), (tr, .inl (cI, 16, .inl (upd trf (1 : Int32).toNatClampNeg 10)))]) u) t) A) ([.ref h, .int 10] : List Value).toArray s 0 0 A) (F0 m 0 ls [])
  refine lv_aload_n hx hb dX8_begins_0 rfl (lv_at hl 0 rfl) ?_
  refine va_get (D := D) (ci := 7) (v := .int 1) (C := RX8) (T := TX8) (N := 16) hx hb hts (fun _ h => List.mem_cons_of_mem _ (List.mem_append_right _ h)) hown hK hP 0 rfl rfl 13 (by decide) (hts (.fieldLink RX8 208 "WinterWalkModel" "traced" "I") (List.mem_of_getElem? (i := 1) rfl)) (fun _ h9 => h9) rfl dX8_begins_1 ?_
  refine lv_bipush (v := 16) hx hb dX8_begins_4 (by decide) ?_
  refine lv_icmp_ge (tgt := 29) hx hb dX8_begins_6 (by decide) (fun c9 => absurd c9 (by decide)) (fun _ => ?_)
  refine lv_aload_n hx hb dX8_begins_9 rfl (lv_at hl 0 rfl) ?_
  refine va_get (D := D) (ci := 7) (v := .ref tr) (C := RX8) (T := TX8) (N := 16) hx hb hts (fun _ h => List.mem_cons_of_mem _ (List.mem_append_right _ h)) hown hK hP 0 rfl rfl 12 (by decide) (hts (.fieldLink RX8 29 "WinterWalkModel" "trace" "[I") (List.mem_of_getElem? (i := 2) rfl)) (fun _ h9 => h9) rfl dX8_begins_10 ?_
  refine lv_aload_n hx hb dX8_begins_13 rfl (lv_at hl 0 rfl) ?_
  refine va_get (D := D) (ci := 7) (v := .int 1) (C := RX8) (T := TX8) (N := 16) hx hb hts (fun _ h => List.mem_cons_of_mem _ (List.mem_append_right _ h)) hown hK hP 0 rfl rfl 13 (by decide) (hts (.fieldLink RX8 208 "WinterWalkModel" "traced" "I") (List.mem_of_getElem? (i := 1) rfl)) (fun _ h9 => h9) rfl dX8_begins_14 ?_
  refine lv_iload_n hx hb dX8_begins_17 rfl (lv_at hl 1 rfl) ?_
  refine va_iast hx hb hK hP hD hS 1 0 rfl rfl (zi_in (by decide) (by decide)) dX8_begins_18 (fun H locs hP hD hS => ?_)
  have hP : va_P D kl [(h, .inr (7, [.ref sl, .int na, .ref zs, .ref ln, .ref ir, .ref tk, .int su, .int le, .ref tb, .int fu, .int ap, .int pp, .ref tr, .int 1, .ref fz, .int nm])), (tr, .inl (cI, 16, .inl (upd trf (1 : Int32).toNatClampNeg 10)))] H := hP
  have hD : va_D A [(h, .inr (7, [.ref sl, .int na, .ref zs, .ref ln, .ref ir, .ref tk, .int su, .int le, .ref tb, .int fu, .int ap, .int pp, .ref tr, .int 1, .ref fz, .int nm])), (tr, .inl (cI, 16, .inl (upd trf (1 : Int32).toNatClampNeg 10)))] := hD
  refine lv_aload_n hx hb dX8_begins_19 rfl (lv_at hl 0 rfl) ?_
  refine lv_dup hx hb dX8_begins_20 rfl ?_
  refine va_get (D := D) (ci := 7) (v := .int 1) (C := RX8) (T := TX8) (N := 16) hx hb hts (fun _ h => List.mem_cons_of_mem _ (List.mem_append_right _ h)) hown hK hP 0 rfl rfl 13 (by decide) (hts (.fieldLink RX8 208 "WinterWalkModel" "traced" "I") (List.mem_of_getElem? (i := 1) rfl)) (fun _ h9 => h9) rfl dX8_begins_21 ?_
  refine lv_iconst (v := 1) hx hb dX8_begins_24 (by decide) ?_
  refine lv_iadd hx hb dX8_begins_25 ?_
  refine lv_topi (fun x_1 ex_1 => ?_)
  obtain rfl : x_1 = 2 := ex_1.trans (by decide)
  refine va_put (D := D) (ci := 7) (v := .int 2) (ty := .int) (C := RX8) (T := TX8) (N := 16) hx hb hts (fun _ h => List.mem_cons_of_mem _ (List.mem_append_right _ h)) tyX8 tyX8_ok nmX8 hown hK hP hD hS 0 rfl rfl 13 (by decide) (hts (.fieldLink RX8 208 "WinterWalkModel" "traced" "I") (List.mem_of_getElem? (i := 1) rfl)) (fun _ h9 => h9) rfl (by decide +kernel) rfl rfl (Nat.le_of_ble_eq_true rfl) dX8_begins_26 (fun H locs hP hD hS => ?_)
  have hP : va_P D kl [(h, .inr (7, [.ref sl, .int na, .ref zs, .ref ln, .ref ir, .ref tk, .int su, .int le, .ref tb, .int fu, .int ap, .int pp, .ref tr, .int 2, .ref fz, .int nm])), (tr, .inl (cI, 16, .inl (upd trf (1 : Int32).toNatClampNeg 10)))] H := hP
  have hD : va_D A [(h, .inr (7, [.ref sl, .int na, .ref zs, .ref ln, .ref ir, .ref tk, .int su, .int le, .ref tb, .int fu, .int ap, .int pp, .ref tr, .int 2, .ref fz, .int nm])), (tr, .inl (cI, 16, .inl (upd trf (1 : Int32).toNatClampNeg 10)))] := hD
  exact wr_v hx hb hr hlocks hS () (by trivial) (hP.sub [0, 1] rfl) (hD.sub [0, 1] (by decide) rfl) dX8_begins_29
set_option maxHeartbeats 4000000 in
set_option maxRecDepth 100000 in
theorem t_X8_size10_0_1 (l : Launch) (D : va_G) (cI cB cQ : ClassId) (sz : Nat) (h : Nat) (sl : Nat) (zs : Nat) (ln : Nat) (ir : Nat) (tk : Nat) (tb : Nat) (tr : Nat) (fz : Nat) (na : Int32) (su : Int32) (le : Int32) (fu : Int32) (ap : Int32) (pp : Int32) (nm : Int32) (v : Int32) (sf : Nat → Int32) (trf : Nat → Int32) (v0 : Int) (hsi : SI sf v0) (h_na : 0 ≤ na.toInt ∧ na.toInt ≤ 24) (h_le : 0 ≤ le.toInt ∧ le.toInt ≤ 120) (h_ap : 0 ≤ ap.toInt ∧ ap.toInt ≤ 120) (h_pp : 0 ≤ pp.toInt ∧ pp.toInt ≤ 120) (h_v : 0 ≤ v.toInt ∧ v.toInt ≤ 2) : mi l yX8_size10 wsX8_size10 ({ frames := 1, cells := 0, slots := 0, locals := 21 }) D cI cB cQ [.ref h, .int v] sz [(h, .inr (7, [.ref sl, .int na, .ref zs, .ref ln, .ref ir, .ref tk, .int su, .int le, .ref tb, .int fu, .int ap, .int pp, .ref tr, .int 1, .ref fz, .int nm])), (sl, .inl (cI, 1653, .inl sf)), (tr, .inl (cI, 16, .inl trf))] (fun (r : Int32) (_u : Unit) => True) (fun _ => [(h, .inr (7, [.ref sl, .int na, .ref zs, .ref ln, .ref ir, .ref tk, .int su, .int le, .ref tb, .int fu, .int ap, .int pp, .ref tr, .int 2, .ref fz, .int nm])), (sl, .inl (cI, 1653, .inl sf)), (tr, .inl (cI, 16, .inl (upd trf (1 : Int32).toNatClampNeg 10)))]) 0 0 := by
  refine wm_i (cc := cX8_size10) (maxL := 2) (ret := (some .int)) (by decide) rfl (Nat.le_of_ble_eq_true rfl) ?_
  intro p e s m below meth c A ls hx hb hr hml hown hts hlocks hin hP hK hD hN hA hl hS
  have hown : s.vm.findClass RX8 = some m.cls := hown
  have hl : lv_has ls 2 [(0, .ref h), (1, .int v)] := hl
  change W p l e ({ frames := 1, cells := 0, slots := 0, locals := 21 }) s m ([.ref h, .int v] : List Value).toArray below meth c s.heap [] 0 0 (MQ below (va_Qi (fun (r : Int32) (_u : Unit) => True) (fun u t => wb D A ((fun _ => [(h, .inr (7, [.ref sl, .int na, .ref zs, .ref ln, .ref ir, .ref tk, .int su, .int le, .ref tb, .int fu, .int ap, .int pp, .ref tr, .int 2, .ref fz, .int nm])), (sl, .inl (cI, 1653, .inl sf)), (tr, .inl (cI, 16, .inl (upd trf (1 : Int32).toNatClampNeg 10)))]) u) t) A) ([.ref h, .int v] : List Value).toArray s 0 0 A) (F0 m 0 ls [])
  refine lv_aload_n hx hb dX8_size10_0 rfl (lv_at hl 0 rfl) ?_
  refine lv_bipush (v := 10) hx hb dX8_size10_1 (by decide) ?_
  have k_1 := (t_X8_begins_10_1 l D cI cB cQ s.heap.size h sl zs ln ir tk tb tr fz na su le fu ap pp nm trf (by omega) (by omega) (by omega) (by omega))
  refine wc_v (WC := [(h, .inr (7, [.ref sl, .int na, .ref zs, .ref ln, .ref ir, .ref tk, .int su, .int le, .ref tb, .int fu, .int ap, .int pp, .ref tr, .int 1, .ref fz, .int nm])), (tr, .inl (cI, 16, .inl trf))]) (WR := [(sl, .inl (cI, 1653, .inl sf))]) (va_runV (As := [.int 10]) (rest := []) ⟨hx, hb, hml, hown, hts⟩ k_1 (cwV 1 hts gX8_size10_X8_begins rfl rfl rfl (by decide +kernel) ⟨Nat.le_of_ble_eq_true rfl, Nat.le_of_ble_eq_true rfl⟩) (wp_V hP hK hD hN [0, 2] (by decide) rfl (ci := 7) rfl rfl) rfl rfl hl.1 rfl (lv_room (Nat.le_of_ble_eq_true rfl)) dX8_size10_3 ⟨Nat.le_of_ble_eq_true rfl, Nat.le_of_ble_eq_true rfl⟩) hP hD hS hA [0, 2] [1] rfl rfl (by decide) (by decide) (fun u_1 H locs hw_1 hP hD hS => ?_)
  clear k_1
  have hP : va_P D kl [(sl, .inl (cI, 1653, .inl sf)), (h, .inr (7, [.ref sl, .int na, .ref zs, .ref ln, .ref ir, .ref tk, .int su, .int le, .ref tb, .int fu, .int ap, .int pp, .ref tr, .int 2, .ref fz, .int nm])), (tr, .inl (cI, 16, .inl (upd trf (1 : Int32).toNatClampNeg 10)))] H := hP
  have hD : va_D A [(sl, .inl (cI, 1653, .inl sf)), (h, .inr (7, [.ref sl, .int na, .ref zs, .ref ln, .ref ir, .ref tk, .int su, .int le, .ref tb, .int fu, .int ap, .int pp, .ref tr, .int 2, .ref fz, .int nm])), (tr, .inl (cI, 16, .inl (upd trf (1 : Int32).toNatClampNeg 10)))] := hD
  clear hw_1
  refine lv_aload_n hx hb dX8_size10_6 rfl (lv_at hl 0 rfl) ?_
  refine va_get (D := D) (ci := 7) (v := .ref sl) (C := RX8) (T := TX8) (N := 16) hx hb hts (fun _ h => List.mem_cons_of_mem _ (List.mem_append_right _ h)) hown hK hP 1 rfl rfl 0 (by decide) (hts (.fieldLink RX8 7 "WinterWalkModel" "slot" "[I") (List.mem_of_getElem? (i := 1) rfl)) (fun _ h9 => h9) rfl dX8_size10_7 ?_
  refine lv_bipush (v := 48) hx hb dX8_size10_10 (by decide) ?_
  refine lv_iload_n hx hb dX8_size10_12 rfl (lv_at hl 1 rfl) ?_
  refine lv_iadd hx hb dX8_size10_13 ?_
  refine lv_topi (fun x_2 ex_2 => ?_)
  have e_2 : x_2.toInt = 48 + v.toInt := by rw [ex_2]; exact zi_add (by decide) (rfl) (by omega) (by omega)
  clear ex_2
  refine va_iald hx hb hK hP 0 0 rfl rfl (zi_in (by omega) (by omega)) dX8_size10_14 ?_
  refine lv_topi (fun x_3 ex_3 => ?_)
  have f_3 : 0 ≤ x_3.toInt ∧ x_3.toInt ≤ 7 := by rw [ex_3]; exact si_a hsi (s := 0) (k := v.toInt) (by omega) (by omega) (by omega)
  clear ex_3
  exact wr_i (v := x_3) hx hb hr hlocks hS () (by trivial) (hP.sub [1, 0, 2] rfl) (hD.sub [1, 0, 2] (by decide) rfl) dX8_size10_15
set_option maxHeartbeats 4000000 in
set_option maxRecDepth 100000 in
theorem t_X8_begins_21_2 (l : Launch) (D : va_G) (cI cB cQ : ClassId) (sz : Nat) (h : Nat) (sl : Nat) (zs : Nat) (ln : Nat) (ir : Nat) (tk : Nat) (tb : Nat) (tr : Nat) (fz : Nat) (na : Int32) (su : Int32) (le : Int32) (fu : Int32) (ap : Int32) (pp : Int32) (nm : Int32) (trf : Nat → Int32) (h_na : 0 ≤ na.toInt ∧ na.toInt ≤ 24) (h_le : 0 ≤ le.toInt ∧ le.toInt ≤ 120) (h_ap : 0 ≤ ap.toInt ∧ ap.toInt ≤ 120) (h_pp : 0 ≤ pp.toInt ∧ pp.toInt ≤ 120) : mv l yX8_begins wsX8_begins ({ frames := 0, cells := 0, slots := 0, locals := 0 }) D cI cB cQ [.ref h, .int 21] sz [(h, .inr (7, [.ref sl, .int na, .ref zs, .ref ln, .ref ir, .ref tk, .int su, .int le, .ref tb, .int fu, .int ap, .int pp, .ref tr, .int 2, .ref fz, .int nm])), (tr, .inl (cI, 16, .inl trf))] (fun (_u : Unit) => True) (fun _ => [(h, .inr (7, [.ref sl, .int na, .ref zs, .ref ln, .ref ir, .ref tk, .int su, .int le, .ref tb, .int fu, .int ap, .int pp, .ref tr, .int 3, .ref fz, .int nm])), (tr, .inl (cI, 16, .inl (upd trf (2 : Int32).toNatClampNeg 21)))]) 0 0 := by
  refine wm_v (cc := cX8_begins) (maxL := 2) (ret := none) (by decide) rfl (Nat.le_of_ble_eq_true rfl) ?_
  intro p e s m below meth c A ls hx hb hr hml hown hts hlocks hin hP hK hD hN hA hl hS
  have hown : s.vm.findClass RX8 = some m.cls := hown
  have hl : lv_has ls 2 [(0, .ref h), (1, .int 21)] := hl
  change W p l e ({ frames := 0, cells := 0, slots := 0, locals := 0 }) s m ([.ref h, .int 21] : List Value).toArray below meth c s.heap [] 0 0 (MQ below (va_Qv (fun (_u : Unit) => True) (fun u t => wb D A ((fun _ => [(h, .inr (7, [.ref sl, .int na, .ref zs, .ref ln, .ref ir, .ref tk, .int su, .int le, .ref tb, .int fu, .int ap, .int pp, .ref tr, .int 3, .ref fz, .int nm])), (tr, .inl (cI, 16, .inl (upd trf (2 : Int32).toNatClampNeg 21)))]) u) t) A) ([.ref h, .int 21] : List Value).toArray s 0 0 A) (F0 m 0 ls [])
  refine lv_aload_n hx hb dX8_begins_0 rfl (lv_at hl 0 rfl) ?_
  refine va_get (D := D) (ci := 7) (v := .int 2) (C := RX8) (T := TX8) (N := 16) hx hb hts (fun _ h => List.mem_cons_of_mem _ (List.mem_append_right _ h)) hown hK hP 0 rfl rfl 13 (by decide) (hts (.fieldLink RX8 208 "WinterWalkModel" "traced" "I") (List.mem_of_getElem? (i := 1) rfl)) (fun _ h9 => h9) rfl dX8_begins_1 ?_
  refine lv_bipush (v := 16) hx hb dX8_begins_4 (by decide) ?_
  refine lv_icmp_ge (tgt := 29) hx hb dX8_begins_6 (by decide) (fun c9 => absurd c9 (by decide)) (fun _ => ?_)
  refine lv_aload_n hx hb dX8_begins_9 rfl (lv_at hl 0 rfl) ?_
  refine va_get (D := D) (ci := 7) (v := .ref tr) (C := RX8) (T := TX8) (N := 16) hx hb hts (fun _ h => List.mem_cons_of_mem _ (List.mem_append_right _ h)) hown hK hP 0 rfl rfl 12 (by decide) (hts (.fieldLink RX8 29 "WinterWalkModel" "trace" "[I") (List.mem_of_getElem? (i := 2) rfl)) (fun _ h9 => h9) rfl dX8_begins_10 ?_
  refine lv_aload_n hx hb dX8_begins_13 rfl (lv_at hl 0 rfl) ?_
  refine va_get (D := D) (ci := 7) (v := .int 2) (C := RX8) (T := TX8) (N := 16) hx hb hts (fun _ h => List.mem_cons_of_mem _ (List.mem_append_right _ h)) hown hK hP 0 rfl rfl 13 (by decide) (hts (.fieldLink RX8 208 "WinterWalkModel" "traced" "I") (List.mem_of_getElem? (i := 1) rfl)) (fun _ h9 => h9) rfl dX8_begins_14 ?_
  refine lv_iload_n hx hb dX8_begins_17 rfl (lv_at hl 1 rfl) ?_
  refine va_iast hx hb hK hP hD hS 1 0 rfl rfl (zi_in (by decide) (by decide)) dX8_begins_18 (fun H locs hP hD hS => ?_)
  have hP : va_P D kl [(h, .inr (7, [.ref sl, .int na, .ref zs, .ref ln, .ref ir, .ref tk, .int su, .int le, .ref tb, .int fu, .int ap, .int pp, .ref tr, .int 2, .ref fz, .int nm])), (tr, .inl (cI, 16, .inl (upd trf (2 : Int32).toNatClampNeg 21)))] H := hP
  have hD : va_D A [(h, .inr (7, [.ref sl, .int na, .ref zs, .ref ln, .ref ir, .ref tk, .int su, .int le, .ref tb, .int fu, .int ap, .int pp, .ref tr, .int 2, .ref fz, .int nm])), (tr, .inl (cI, 16, .inl (upd trf (2 : Int32).toNatClampNeg 21)))] := hD
  refine lv_aload_n hx hb dX8_begins_19 rfl (lv_at hl 0 rfl) ?_
  refine lv_dup hx hb dX8_begins_20 rfl ?_
  refine va_get (D := D) (ci := 7) (v := .int 2) (C := RX8) (T := TX8) (N := 16) hx hb hts (fun _ h => List.mem_cons_of_mem _ (List.mem_append_right _ h)) hown hK hP 0 rfl rfl 13 (by decide) (hts (.fieldLink RX8 208 "WinterWalkModel" "traced" "I") (List.mem_of_getElem? (i := 1) rfl)) (fun _ h9 => h9) rfl dX8_begins_21 ?_
  refine lv_iconst (v := 1) hx hb dX8_begins_24 (by decide) ?_
  refine lv_iadd hx hb dX8_begins_25 ?_
  refine lv_topi (fun x_1 ex_1 => ?_)
  obtain rfl : x_1 = 3 := ex_1.trans (by decide)
  refine va_put (D := D) (ci := 7) (v := .int 3) (ty := .int) (C := RX8) (T := TX8) (N := 16) hx hb hts (fun _ h => List.mem_cons_of_mem _ (List.mem_append_right _ h)) tyX8 tyX8_ok nmX8 hown hK hP hD hS 0 rfl rfl 13 (by decide) (hts (.fieldLink RX8 208 "WinterWalkModel" "traced" "I") (List.mem_of_getElem? (i := 1) rfl)) (fun _ h9 => h9) rfl (by decide +kernel) rfl rfl (Nat.le_of_ble_eq_true rfl) dX8_begins_26 (fun H locs hP hD hS => ?_)
  have hP : va_P D kl [(h, .inr (7, [.ref sl, .int na, .ref zs, .ref ln, .ref ir, .ref tk, .int su, .int le, .ref tb, .int fu, .int ap, .int pp, .ref tr, .int 3, .ref fz, .int nm])), (tr, .inl (cI, 16, .inl (upd trf (2 : Int32).toNatClampNeg 21)))] H := hP
  have hD : va_D A [(h, .inr (7, [.ref sl, .int na, .ref zs, .ref ln, .ref ir, .ref tk, .int su, .int le, .ref tb, .int fu, .int ap, .int pp, .ref tr, .int 3, .ref fz, .int nm])), (tr, .inl (cI, 16, .inl (upd trf (2 : Int32).toNatClampNeg 21)))] := hD
  exact wr_v hx hb hr hlocks hS () (by trivial) (hP.sub [0, 1] rfl) (hD.sub [0, 1] (by decide) rfl) dX8_begins_29
set_option maxHeartbeats 4000000 in
set_option maxRecDepth 100000 in
theorem t_X8_begins_20_3 (l : Launch) (D : va_G) (cI cB cQ : ClassId) (sz : Nat) (h : Nat) (sl : Nat) (zs : Nat) (ln : Nat) (ir : Nat) (tk : Nat) (tb : Nat) (tr : Nat) (fz : Nat) (na : Int32) (su : Int32) (le : Int32) (fu : Int32) (ap : Int32) (pp : Int32) (nm : Int32) (trf : Nat → Int32) (h_na : 0 ≤ na.toInt ∧ na.toInt ≤ 24) (h_le : 0 ≤ le.toInt ∧ le.toInt ≤ 120) (h_ap : 0 ≤ ap.toInt ∧ ap.toInt ≤ 120) (h_pp : 0 ≤ pp.toInt ∧ pp.toInt ≤ 120) : mv l yX8_begins wsX8_begins ({ frames := 0, cells := 0, slots := 0, locals := 0 }) D cI cB cQ [.ref h, .int 20] sz [(h, .inr (7, [.ref sl, .int na, .ref zs, .ref ln, .ref ir, .ref tk, .int su, .int le, .ref tb, .int fu, .int ap, .int pp, .ref tr, .int 3, .ref fz, .int nm])), (tr, .inl (cI, 16, .inl trf))] (fun (_u : Unit) => True) (fun _ => [(h, .inr (7, [.ref sl, .int na, .ref zs, .ref ln, .ref ir, .ref tk, .int su, .int le, .ref tb, .int fu, .int ap, .int pp, .ref tr, .int 4, .ref fz, .int nm])), (tr, .inl (cI, 16, .inl (upd trf (3 : Int32).toNatClampNeg 20)))]) 0 0 := by
  refine wm_v (cc := cX8_begins) (maxL := 2) (ret := none) (by decide) rfl (Nat.le_of_ble_eq_true rfl) ?_
  intro p e s m below meth c A ls hx hb hr hml hown hts hlocks hin hP hK hD hN hA hl hS
  have hown : s.vm.findClass RX8 = some m.cls := hown
  have hl : lv_has ls 2 [(0, .ref h), (1, .int 20)] := hl
  change W p l e ({ frames := 0, cells := 0, slots := 0, locals := 0 }) s m ([.ref h, .int 20] : List Value).toArray below meth c s.heap [] 0 0 (MQ below (va_Qv (fun (_u : Unit) => True) (fun u t => wb D A ((fun _ => [(h, .inr (7, [.ref sl, .int na, .ref zs, .ref ln, .ref ir, .ref tk, .int su, .int le, .ref tb, .int fu, .int ap, .int pp, .ref tr, .int 4, .ref fz, .int nm])), (tr, .inl (cI, 16, .inl (upd trf (3 : Int32).toNatClampNeg 20)))]) u) t) A) ([.ref h, .int 20] : List Value).toArray s 0 0 A) (F0 m 0 ls [])
  refine lv_aload_n hx hb dX8_begins_0 rfl (lv_at hl 0 rfl) ?_
  refine va_get (D := D) (ci := 7) (v := .int 3) (C := RX8) (T := TX8) (N := 16) hx hb hts (fun _ h => List.mem_cons_of_mem _ (List.mem_append_right _ h)) hown hK hP 0 rfl rfl 13 (by decide) (hts (.fieldLink RX8 208 "WinterWalkModel" "traced" "I") (List.mem_of_getElem? (i := 1) rfl)) (fun _ h9 => h9) rfl dX8_begins_1 ?_
  refine lv_bipush (v := 16) hx hb dX8_begins_4 (by decide) ?_
  refine lv_icmp_ge (tgt := 29) hx hb dX8_begins_6 (by decide) (fun c9 => absurd c9 (by decide)) (fun _ => ?_)
  refine lv_aload_n hx hb dX8_begins_9 rfl (lv_at hl 0 rfl) ?_
  refine va_get (D := D) (ci := 7) (v := .ref tr) (C := RX8) (T := TX8) (N := 16) hx hb hts (fun _ h => List.mem_cons_of_mem _ (List.mem_append_right _ h)) hown hK hP 0 rfl rfl 12 (by decide) (hts (.fieldLink RX8 29 "WinterWalkModel" "trace" "[I") (List.mem_of_getElem? (i := 2) rfl)) (fun _ h9 => h9) rfl dX8_begins_10 ?_
  refine lv_aload_n hx hb dX8_begins_13 rfl (lv_at hl 0 rfl) ?_
  refine va_get (D := D) (ci := 7) (v := .int 3) (C := RX8) (T := TX8) (N := 16) hx hb hts (fun _ h => List.mem_cons_of_mem _ (List.mem_append_right _ h)) hown hK hP 0 rfl rfl 13 (by decide) (hts (.fieldLink RX8 208 "WinterWalkModel" "traced" "I") (List.mem_of_getElem? (i := 1) rfl)) (fun _ h9 => h9) rfl dX8_begins_14 ?_
  refine lv_iload_n hx hb dX8_begins_17 rfl (lv_at hl 1 rfl) ?_
  refine va_iast hx hb hK hP hD hS 1 0 rfl rfl (zi_in (by decide) (by decide)) dX8_begins_18 (fun H locs hP hD hS => ?_)
  have hP : va_P D kl [(h, .inr (7, [.ref sl, .int na, .ref zs, .ref ln, .ref ir, .ref tk, .int su, .int le, .ref tb, .int fu, .int ap, .int pp, .ref tr, .int 3, .ref fz, .int nm])), (tr, .inl (cI, 16, .inl (upd trf (3 : Int32).toNatClampNeg 20)))] H := hP
  have hD : va_D A [(h, .inr (7, [.ref sl, .int na, .ref zs, .ref ln, .ref ir, .ref tk, .int su, .int le, .ref tb, .int fu, .int ap, .int pp, .ref tr, .int 3, .ref fz, .int nm])), (tr, .inl (cI, 16, .inl (upd trf (3 : Int32).toNatClampNeg 20)))] := hD
  refine lv_aload_n hx hb dX8_begins_19 rfl (lv_at hl 0 rfl) ?_
  refine lv_dup hx hb dX8_begins_20 rfl ?_
  refine va_get (D := D) (ci := 7) (v := .int 3) (C := RX8) (T := TX8) (N := 16) hx hb hts (fun _ h => List.mem_cons_of_mem _ (List.mem_append_right _ h)) hown hK hP 0 rfl rfl 13 (by decide) (hts (.fieldLink RX8 208 "WinterWalkModel" "traced" "I") (List.mem_of_getElem? (i := 1) rfl)) (fun _ h9 => h9) rfl dX8_begins_21 ?_
  refine lv_iconst (v := 1) hx hb dX8_begins_24 (by decide) ?_
  refine lv_iadd hx hb dX8_begins_25 ?_
  refine lv_topi (fun x_1 ex_1 => ?_)
  obtain rfl : x_1 = 4 := ex_1.trans (by decide)
  refine va_put (D := D) (ci := 7) (v := .int 4) (ty := .int) (C := RX8) (T := TX8) (N := 16) hx hb hts (fun _ h => List.mem_cons_of_mem _ (List.mem_append_right _ h)) tyX8 tyX8_ok nmX8 hown hK hP hD hS 0 rfl rfl 13 (by decide) (hts (.fieldLink RX8 208 "WinterWalkModel" "traced" "I") (List.mem_of_getElem? (i := 1) rfl)) (fun _ h9 => h9) rfl (by decide +kernel) rfl rfl (Nat.le_of_ble_eq_true rfl) dX8_begins_26 (fun H locs hP hD hS => ?_)
  have hP : va_P D kl [(h, .inr (7, [.ref sl, .int na, .ref zs, .ref ln, .ref ir, .ref tk, .int su, .int le, .ref tb, .int fu, .int ap, .int pp, .ref tr, .int 4, .ref fz, .int nm])), (tr, .inl (cI, 16, .inl (upd trf (3 : Int32).toNatClampNeg 20)))] H := hP
  have hD : va_D A [(h, .inr (7, [.ref sl, .int na, .ref zs, .ref ln, .ref ir, .ref tk, .int su, .int le, .ref tb, .int fu, .int ap, .int pp, .ref tr, .int 4, .ref fz, .int nm])), (tr, .inl (cI, 16, .inl (upd trf (3 : Int32).toNatClampNeg 20)))] := hD
  exact wr_v hx hb hr hlocks hS () (by trivial) (hP.sub [0, 1] rfl) (hD.sub [0, 1] (by decide) rfl) dX8_begins_29
set_option maxHeartbeats 4000000 in
set_option maxRecDepth 100000 in
theorem t_X8_mark20_0_3 (l : Launch) (D : va_G) (cI cB cQ : ClassId) (sz : Nat) (h : Nat) (sl : Nat) (zs : Nat) (ln : Nat) (ir : Nat) (tk : Nat) (tb : Nat) (tr : Nat) (fz : Nat) (na : Int32) (su : Int32) (le : Int32) (fu : Int32) (ap : Int32) (pp : Int32) (nm : Int32) (v : Int32) (sf : Nat → Int32) (trf : Nat → Int32) (v0 : Int) (hsi : SI sf v0) (h_na : 0 ≤ na.toInt ∧ na.toInt ≤ 24) (h_le : 0 ≤ le.toInt ∧ le.toInt ≤ 120) (h_ap : 0 ≤ ap.toInt ∧ ap.toInt ≤ 120) (h_pp : 0 ≤ pp.toInt ∧ pp.toInt ≤ 120) (h_v : 0 ≤ v.toInt ∧ v.toInt ≤ 2) : mi l yX8_mark20 wsX8_mark20 ({ frames := 1, cells := 0, slots := 0, locals := 21 }) D cI cB cQ [.ref h, .int v] sz [(h, .inr (7, [.ref sl, .int na, .ref zs, .ref ln, .ref ir, .ref tk, .int su, .int le, .ref tb, .int fu, .int ap, .int pp, .ref tr, .int 3, .ref fz, .int nm])), (sl, .inl (cI, 1653, .inl sf)), (tr, .inl (cI, 16, .inl trf))] (fun (r : Int32) (_u : Unit) => True) (fun _ => [(h, .inr (7, [.ref sl, .int na, .ref zs, .ref ln, .ref ir, .ref tk, .int su, .int le, .ref tb, .int fu, .int ap, .int pp, .ref tr, .int 4, .ref fz, .int nm])), (sl, .inl (cI, 1653, .inl sf)), (tr, .inl (cI, 16, .inl (upd trf (3 : Int32).toNatClampNeg 20)))]) 0 0 := by
  refine wm_i (cc := cX8_mark20) (maxL := 2) (ret := (some .int)) (by decide) rfl (Nat.le_of_ble_eq_true rfl) ?_
  intro p e s m below meth c A ls hx hb hr hml hown hts hlocks hin hP hK hD hN hA hl hS
  have hown : s.vm.findClass RX8 = some m.cls := hown
  have hl : lv_has ls 2 [(0, .ref h), (1, .int v)] := hl
  change W p l e ({ frames := 1, cells := 0, slots := 0, locals := 21 }) s m ([.ref h, .int v] : List Value).toArray below meth c s.heap [] 0 0 (MQ below (va_Qi (fun (r : Int32) (_u : Unit) => True) (fun u t => wb D A ((fun _ => [(h, .inr (7, [.ref sl, .int na, .ref zs, .ref ln, .ref ir, .ref tk, .int su, .int le, .ref tb, .int fu, .int ap, .int pp, .ref tr, .int 4, .ref fz, .int nm])), (sl, .inl (cI, 1653, .inl sf)), (tr, .inl (cI, 16, .inl (upd trf (3 : Int32).toNatClampNeg 20)))]) u) t) A) ([.ref h, .int v] : List Value).toArray s 0 0 A) (F0 m 0 ls [])
  refine lv_aload_n hx hb dX8_mark20_0 rfl (lv_at hl 0 rfl) ?_
  refine lv_bipush (v := 20) hx hb dX8_mark20_1 (by decide) ?_
  have k_1 := (t_X8_begins_20_3 l D cI cB cQ s.heap.size h sl zs ln ir tk tb tr fz na su le fu ap pp nm trf (by omega) (by omega) (by omega) (by omega))
  refine wc_v (WC := [(h, .inr (7, [.ref sl, .int na, .ref zs, .ref ln, .ref ir, .ref tk, .int su, .int le, .ref tb, .int fu, .int ap, .int pp, .ref tr, .int 3, .ref fz, .int nm])), (tr, .inl (cI, 16, .inl trf))]) (WR := [(sl, .inl (cI, 1653, .inl sf))]) (va_runV (As := [.int 20]) (rest := []) ⟨hx, hb, hml, hown, hts⟩ k_1 (cwV 1 hts gX8_mark20_X8_begins rfl rfl rfl (by decide +kernel) ⟨Nat.le_of_ble_eq_true rfl, Nat.le_of_ble_eq_true rfl⟩) (wp_V hP hK hD hN [0, 2] (by decide) rfl (ci := 7) rfl rfl) rfl rfl hl.1 rfl (lv_room (Nat.le_of_ble_eq_true rfl)) dX8_mark20_3 ⟨Nat.le_of_ble_eq_true rfl, Nat.le_of_ble_eq_true rfl⟩) hP hD hS hA [0, 2] [1] rfl rfl (by decide) (by decide) (fun u_1 H locs hw_1 hP hD hS => ?_)
  clear k_1
  have hP : va_P D kl [(sl, .inl (cI, 1653, .inl sf)), (h, .inr (7, [.ref sl, .int na, .ref zs, .ref ln, .ref ir, .ref tk, .int su, .int le, .ref tb, .int fu, .int ap, .int pp, .ref tr, .int 4, .ref fz, .int nm])), (tr, .inl (cI, 16, .inl (upd trf (3 : Int32).toNatClampNeg 20)))] H := hP
  have hD : va_D A [(sl, .inl (cI, 1653, .inl sf)), (h, .inr (7, [.ref sl, .int na, .ref zs, .ref ln, .ref ir, .ref tk, .int su, .int le, .ref tb, .int fu, .int ap, .int pp, .ref tr, .int 4, .ref fz, .int nm])), (tr, .inl (cI, 16, .inl (upd trf (3 : Int32).toNatClampNeg 20)))] := hD
  clear hw_1
  refine lv_iload_n hx hb dX8_mark20_6 rfl (lv_at hl 1 rfl) ?_
  exact wr_i (v := v) hx hb hr hlocks hS () (by trivial) (hP.sub [1, 0, 2] rfl) (hD.sub [1, 0, 2] (by decide) rfl) dX8_mark20_7
set_option maxHeartbeats 4000000 in
set_option maxRecDepth 100000 in
theorem t_X8_mark21_0_2 (l : Launch) (D : va_G) (cI cB cQ : ClassId) (sz : Nat) (h : Nat) (sl : Nat) (zs : Nat) (ln : Nat) (ir : Nat) (tk : Nat) (tb : Nat) (tr : Nat) (fz : Nat) (na : Int32) (su : Int32) (le : Int32) (fu : Int32) (ap : Int32) (pp : Int32) (nm : Int32) (v : Int32) (sf : Nat → Int32) (trf : Nat → Int32) (v0 : Int) (hsi : SI sf v0) (h_na : 0 ≤ na.toInt ∧ na.toInt ≤ 24) (h_le : 0 ≤ le.toInt ∧ le.toInt ≤ 120) (h_ap : 0 ≤ ap.toInt ∧ ap.toInt ≤ 120) (h_pp : 0 ≤ pp.toInt ∧ pp.toInt ≤ 120) (h_v : 0 ≤ v.toInt ∧ v.toInt ≤ 2) : mi l yX8_mark21 wsX8_mark21 ({ frames := 2, cells := 0, slots := 0, locals := 42 }) D cI cB cQ [.ref h, .int v] sz [(h, .inr (7, [.ref sl, .int na, .ref zs, .ref ln, .ref ir, .ref tk, .int su, .int le, .ref tb, .int fu, .int ap, .int pp, .ref tr, .int 2, .ref fz, .int nm])), (sl, .inl (cI, 1653, .inl sf)), (tr, .inl (cI, 16, .inl trf))] (fun (r : Int32) (_u : Unit) => True) (fun _ => [(h, .inr (7, [.ref sl, .int na, .ref zs, .ref ln, .ref ir, .ref tk, .int su, .int le, .ref tb, .int fu, .int ap, .int pp, .ref tr, .int 4, .ref fz, .int nm])), (sl, .inl (cI, 1653, .inl sf)), (tr, .inl (cI, 16, .inl (upd (upd trf (2 : Int32).toNatClampNeg 21) (3 : Int32).toNatClampNeg 20)))]) 0 0 := by
  refine wm_i (cc := cX8_mark21) (maxL := 3) (ret := (some .int)) (by decide) rfl (Nat.le_of_ble_eq_true rfl) ?_
  intro p e s m below meth c A ls hx hb hr hml hown hts hlocks hin hP hK hD hN hA hl hS
  have hown : s.vm.findClass RX8 = some m.cls := hown
  have hl : lv_has ls 3 [(0, .ref h), (1, .int v)] := hl
  change W p l e ({ frames := 2, cells := 0, slots := 0, locals := 42 }) s m ([.ref h, .int v] : List Value).toArray below meth c s.heap [] 0 0 (MQ below (va_Qi (fun (r : Int32) (_u : Unit) => True) (fun u t => wb D A ((fun _ => [(h, .inr (7, [.ref sl, .int na, .ref zs, .ref ln, .ref ir, .ref tk, .int su, .int le, .ref tb, .int fu, .int ap, .int pp, .ref tr, .int 4, .ref fz, .int nm])), (sl, .inl (cI, 1653, .inl sf)), (tr, .inl (cI, 16, .inl (upd (upd trf (2 : Int32).toNatClampNeg 21) (3 : Int32).toNatClampNeg 20)))]) u) t) A) ([.ref h, .int v] : List Value).toArray s 0 0 A) (F0 m 0 ls [])
  refine lv_aload_n hx hb dX8_mark21_0 rfl (lv_at hl 0 rfl) ?_
  refine lv_bipush (v := 21) hx hb dX8_mark21_1 (by decide) ?_
  have k_1 := (t_X8_begins_21_2 l D cI cB cQ s.heap.size h sl zs ln ir tk tb tr fz na su le fu ap pp nm trf (by omega) (by omega) (by omega) (by omega))
  refine wc_v (WC := [(h, .inr (7, [.ref sl, .int na, .ref zs, .ref ln, .ref ir, .ref tk, .int su, .int le, .ref tb, .int fu, .int ap, .int pp, .ref tr, .int 2, .ref fz, .int nm])), (tr, .inl (cI, 16, .inl trf))]) (WR := [(sl, .inl (cI, 1653, .inl sf))]) (va_runV (As := [.int 21]) (rest := []) ⟨hx, hb, hml, hown, hts⟩ k_1 (cwV 1 hts gX8_mark21_X8_begins rfl rfl rfl (by decide +kernel) ⟨Nat.le_of_ble_eq_true rfl, Nat.le_of_ble_eq_true rfl⟩) (wp_V hP hK hD hN [0, 2] (by decide) rfl (ci := 7) rfl rfl) rfl rfl hl.1 rfl (lv_room (Nat.le_of_ble_eq_true rfl)) dX8_mark21_3 ⟨Nat.le_of_ble_eq_true rfl, Nat.le_of_ble_eq_true rfl⟩) hP hD hS hA [0, 2] [1] rfl rfl (by decide) (by decide) (fun u_1 H locs hw_1 hP hD hS => ?_)
  clear k_1
  have hP : va_P D kl [(sl, .inl (cI, 1653, .inl sf)), (h, .inr (7, [.ref sl, .int na, .ref zs, .ref ln, .ref ir, .ref tk, .int su, .int le, .ref tb, .int fu, .int ap, .int pp, .ref tr, .int 3, .ref fz, .int nm])), (tr, .inl (cI, 16, .inl (upd trf (2 : Int32).toNatClampNeg 21)))] H := hP
  have hD : va_D A [(sl, .inl (cI, 1653, .inl sf)), (h, .inr (7, [.ref sl, .int na, .ref zs, .ref ln, .ref ir, .ref tk, .int su, .int le, .ref tb, .int fu, .int ap, .int pp, .ref tr, .int 3, .ref fz, .int nm])), (tr, .inl (cI, 16, .inl (upd trf (2 : Int32).toNatClampNeg 21)))] := hD
  clear hw_1
  refine lv_aload_n hx hb dX8_mark21_6 rfl (lv_at hl 0 rfl) ?_
  refine lv_iload_n hx hb dX8_mark21_7 rfl (lv_at hl 1 rfl) ?_
  have k_2 := (t_X8_mark20_0_3 l D cI cB cQ H.size h sl zs ln ir tk tb tr fz na su le fu ap pp nm v sf (upd trf (2 : Int32).toNatClampNeg 21) v0 hsi (by omega) (by omega) (by omega) (by omega) (by omega))
  refine wc_i (WC := [(h, .inr (7, [.ref sl, .int na, .ref zs, .ref ln, .ref ir, .ref tk, .int su, .int le, .ref tb, .int fu, .int ap, .int pp, .ref tr, .int 3, .ref fz, .int nm])), (sl, .inl (cI, 1653, .inl sf)), (tr, .inl (cI, 16, .inl (upd trf (2 : Int32).toNatClampNeg 21)))]) (WR := []) (va_runV (As := [.int v]) (rest := []) ⟨hx, hb, hml, hown, hts⟩ k_2 (cwV 1 hts gX8_mark21_X8_mark20 rfl rfl rfl (by decide +kernel) ⟨Nat.le_of_ble_eq_true rfl, Nat.le_of_ble_eq_true rfl⟩) (wp_V hP hK hD hN [1, 0, 2] (by decide) rfl (ci := 7) rfl rfl) rfl rfl hl.1 rfl (lv_room (Nat.le_of_ble_eq_true rfl)) dX8_mark21_8 ⟨Nat.le_of_ble_eq_true rfl, Nat.le_of_ble_eq_true rfl⟩) hP hD hS hA [1, 0, 2] [] rfl rfl (by decide) (by decide) (fun r_2 u_2 H locs hw_2 hP hD hS => ?_)
  clear k_2
  have hP : va_P D kl [(h, .inr (7, [.ref sl, .int na, .ref zs, .ref ln, .ref ir, .ref tk, .int su, .int le, .ref tb, .int fu, .int ap, .int pp, .ref tr, .int 4, .ref fz, .int nm])), (sl, .inl (cI, 1653, .inl sf)), (tr, .inl (cI, 16, .inl (upd (upd trf (2 : Int32).toNatClampNeg 21) (3 : Int32).toNatClampNeg 20)))] H := hP
  have hD : va_D A [(h, .inr (7, [.ref sl, .int na, .ref zs, .ref ln, .ref ir, .ref tk, .int su, .int le, .ref tb, .int fu, .int ap, .int pp, .ref tr, .int 4, .ref fz, .int nm])), (sl, .inl (cI, 1653, .inl sf)), (tr, .inl (cI, 16, .inl (upd (upd trf (2 : Int32).toNatClampNeg 21) (3 : Int32).toNatClampNeg 20)))] := hD
  clear hw_2
  refine lv_istore_n (lv' := [(2, .int r_2), (0, .ref h), (1, .int v)]) hx hb dX8_mark21_11 rfl hl (by decide) rfl (fun ls hl => ?_)
  refine lv_iload_n hx hb dX8_mark21_12 rfl (lv_at hl 0 rfl) ?_
  refine lv_aload_n hx hb dX8_mark21_13 rfl (lv_at hl 1 rfl) ?_
  refine va_get (D := D) (ci := 7) (v := .ref sl) (C := RX8) (T := TX8) (N := 16) hx hb hts (fun _ h => List.mem_cons_of_mem _ (List.mem_append_right _ h)) hown hK hP 0 rfl rfl 0 (by decide) (hts (.fieldLink RX8 7 "WinterWalkModel" "slot" "[I") (List.mem_of_getElem? (i := 1) rfl)) (fun _ h9 => h9) rfl dX8_mark21_14 ?_
  refine lv_bipush (v := 23) hx hb dX8_mark21_17 (by decide) ?_
  refine lv_aload_n hx hb dX8_mark21_19 rfl (lv_at hl 1 rfl) ?_
  refine va_get (D := D) (ci := 7) (v := .ref sl) (C := RX8) (T := TX8) (N := 16) hx hb hts (fun _ h => List.mem_cons_of_mem _ (List.mem_append_right _ h)) hown hK hP 0 rfl rfl 0 (by decide) (hts (.fieldLink RX8 7 "WinterWalkModel" "slot" "[I") (List.mem_of_getElem? (i := 1) rfl)) (fun _ h9 => h9) rfl dX8_mark21_20 ?_
  refine lv_bipush (v := 48) hx hb dX8_mark21_23 (by decide) ?_
  refine lv_iload_n hx hb dX8_mark21_25 rfl (lv_at hl 2 rfl) ?_
  refine lv_iadd hx hb dX8_mark21_26 ?_
  refine lv_topi (fun x_3 ex_3 => ?_)
  have e_3 : x_3.toInt = 48 + v.toInt := by rw [ex_3]; exact zi_add (by decide) (rfl) (by omega) (by omega)
  clear ex_3
  refine va_iald hx hb hK hP 1 0 rfl rfl (zi_in (by omega) (by omega)) dX8_mark21_27 ?_
  refine lv_topi (fun x_4 ex_4 => ?_)
  have f_4 : 0 ≤ x_4.toInt ∧ x_4.toInt ≤ 7 := by rw [ex_4]; exact si_a hsi (s := 0) (k := v.toInt) (by omega) (by omega) (by omega)
  clear ex_4
  refine lv_iadd hx hb dX8_mark21_28 ?_
  refine lv_topi (fun x_5 ex_5 => ?_)
  have e_5 : x_5.toInt = 23 + x_4.toInt := by rw [ex_5]; exact zi_add (by decide) (rfl) (by omega) (by omega)
  clear ex_5
  refine va_iald hx hb hK hP 1 0 rfl rfl (zi_in (by omega) (by omega)) dX8_mark21_29 ?_
  refine lv_topi (fun x_6 ex_6 => ?_)
  clear ex_6
  refine lv_iadd hx hb dX8_mark21_30 ?_
  refine lv_topi (fun x_7 ex_7 => ?_)
  clear ex_7
  exact wr_i (v := x_7) hx hb hr hlocks hS () (by trivial) (hP.sub [0, 1, 2] rfl) (hD.sub [0, 1, 2] (by decide) rfl) dX8_mark21_31
set_option maxHeartbeats 4000000 in
set_option maxRecDepth 100000 in
theorem t_X8_markOld_1_2 (l : Launch) (D : va_G) (cI cB cQ : ClassId) (sz : Nat) (h : Nat) (sl : Nat) (zs : Nat) (ln : Nat) (ir : Nat) (tk : Nat) (tb : Nat) (tr : Nat) (fz : Nat) (na : Int32) (su : Int32) (le : Int32) (fu : Int32) (ap : Int32) (pp : Int32) (nm : Int32) (v : Int32) (sf : Nat → Int32) (trf : Nat → Int32) (v0 : Int) (hsi : SI sf v0) (h_na : 0 ≤ na.toInt ∧ na.toInt ≤ 24) (h_le : 0 ≤ le.toInt ∧ le.toInt ≤ 120) (h_ap : 0 ≤ ap.toInt ∧ ap.toInt ≤ 120) (h_pp : 0 ≤ pp.toInt ∧ pp.toInt ≤ 120) (h_v : 0 ≤ v.toInt ∧ v.toInt ≤ 2) (h_kd : sf (20 + v.toNatClampNeg) = 1) : mi l yX8_markOld wsX8_markOld ({ frames := 3, cells := 0, slots := 0, locals := 64 }) D cI cB cQ [.ref h, .int v] sz [(h, .inr (7, [.ref sl, .int na, .ref zs, .ref ln, .ref ir, .ref tk, .int su, .int le, .ref tb, .int fu, .int ap, .int pp, .ref tr, .int 2, .ref fz, .int nm])), (sl, .inl (cI, 1653, .inl sf)), (tr, .inl (cI, 16, .inl trf))] (fun (r : Int32) (_u : Unit) => True) (fun _ => [(h, .inr (7, [.ref sl, .int na, .ref zs, .ref ln, .ref ir, .ref tk, .int su, .int le, .ref tb, .int fu, .int ap, .int pp, .ref tr, .int 4, .ref fz, .int nm])), (sl, .inl (cI, 1653, .inl sf)), (tr, .inl (cI, 16, .inl (upd (upd trf (2 : Int32).toNatClampNeg 21) (3 : Int32).toNatClampNeg 20)))]) 0 0 := by
  refine wm_i (cc := cX8_markOld) (maxL := 4) (ret := (some .int)) (by decide) rfl (Nat.le_of_ble_eq_true rfl) ?_
  intro p e s m below meth c A ls hx hb hr hml hown hts hlocks hin hP hK hD hN hA hl hS
  have hown : s.vm.findClass RX8 = some m.cls := hown
  have hl : lv_has ls 4 [(0, .ref h), (1, .int v)] := hl
  change W p l e ({ frames := 3, cells := 0, slots := 0, locals := 64 }) s m ([.ref h, .int v] : List Value).toArray below meth c s.heap [] 0 0 (MQ below (va_Qi (fun (r : Int32) (_u : Unit) => True) (fun u t => wb D A ((fun _ => [(h, .inr (7, [.ref sl, .int na, .ref zs, .ref ln, .ref ir, .ref tk, .int su, .int le, .ref tb, .int fu, .int ap, .int pp, .ref tr, .int 4, .ref fz, .int nm])), (sl, .inl (cI, 1653, .inl sf)), (tr, .inl (cI, 16, .inl (upd (upd trf (2 : Int32).toNatClampNeg 21) (3 : Int32).toNatClampNeg 20)))]) u) t) A) ([.ref h, .int v] : List Value).toArray s 0 0 A) (F0 m 0 ls [])
  refine lv_aload_n hx hb dX8_markOld_0 rfl (lv_at hl 0 rfl) ?_
  refine va_get (D := D) (ci := 7) (v := .ref sl) (C := RX8) (T := TX8) (N := 16) hx hb hts (fun _ h => List.mem_cons_of_mem _ (List.mem_append_right _ h)) hown hK hP 0 rfl rfl 0 (by decide) (hts (.fieldLink RX8 7 "WinterWalkModel" "slot" "[I") (List.mem_of_getElem? (i := 1) rfl)) (fun _ h9 => h9) rfl dX8_markOld_1 ?_
  refine lv_bipush (v := 20) hx hb dX8_markOld_4 (by decide) ?_
  refine lv_iload_n hx hb dX8_markOld_6 rfl (lv_at hl 1 rfl) ?_
  refine lv_iadd hx hb dX8_markOld_7 ?_
  refine lv_topi (fun x_1 ex_1 => ?_)
  have e_1 : x_1.toInt = 20 + v.toInt := by rw [ex_1]; exact zi_add (by decide) (rfl) (by omega) (by omega)
  clear ex_1
  refine va_iald hx hb hK hP 1 0 rfl rfl (zi_in (by omega) (by omega)) dX8_markOld_8 ?_
  refine lv_topi (fun x_2 ex_2 => ?_)
  obtain rfl : x_2 = 1 := ex_2.trans ((congrArg sf (show (x_1 : Int32).toNatClampNeg = 20 + v.toNatClampNeg from by have h9 := zi_cn (x := x_1) (by omega); have h8 := zi_cn (x := v) (by omega); omega)).trans h_kd)
  refine lv_istore_n (lv' := [(2, .int 1), (0, .ref h), (1, .int v)]) hx hb dX8_markOld_9 rfl hl (by decide) rfl (fun ls hl => ?_)
  refine lv_iload_n hx hb dX8_markOld_10 rfl (lv_at hl 0 rfl) ?_
  refine lv_iconst (v := 1) hx hb dX8_markOld_11 (by decide) ?_
  refine lv_icmp_ne (tgt := 21) hx hb dX8_markOld_12 (by decide) (fun c9 => absurd (by decide) c9) (fun _ => ?_)
  refine lv_aload_n hx hb dX8_markOld_15 rfl (lv_at hl 1 rfl) ?_
  refine lv_iload_n hx hb dX8_markOld_16 rfl (lv_at hl 2 rfl) ?_
  have k_3 := (t_X8_mark21_0_2 l D cI cB cQ s.heap.size h sl zs ln ir tk tb tr fz na su le fu ap pp nm v sf trf v0 hsi (by omega) (by omega) (by omega) (by omega) (by omega))
  refine wc_i (WC := [(h, .inr (7, [.ref sl, .int na, .ref zs, .ref ln, .ref ir, .ref tk, .int su, .int le, .ref tb, .int fu, .int ap, .int pp, .ref tr, .int 2, .ref fz, .int nm])), (sl, .inl (cI, 1653, .inl sf)), (tr, .inl (cI, 16, .inl trf))]) (WR := []) (va_runV (As := [.int v]) (rest := []) ⟨hx, hb, hml, hown, hts⟩ k_3 (cwV 1 hts gX8_markOld_X8_mark21 rfl rfl rfl (by decide +kernel) ⟨Nat.le_of_ble_eq_true rfl, Nat.le_of_ble_eq_true rfl⟩) (wp_V hP hK hD hN [0, 1, 2] (by decide) rfl (ci := 7) rfl rfl) rfl rfl hl.1 rfl (lv_room (Nat.le_of_ble_eq_true rfl)) dX8_markOld_17 ⟨Nat.le_of_ble_eq_true rfl, Nat.le_of_ble_eq_true rfl⟩) hP hD hS hA [0, 1, 2] [] rfl rfl (by decide) (by decide) (fun r_3 u_3 H locs hw_3 hP hD hS => ?_)
  clear k_3
  have hP : va_P D kl [(h, .inr (7, [.ref sl, .int na, .ref zs, .ref ln, .ref ir, .ref tk, .int su, .int le, .ref tb, .int fu, .int ap, .int pp, .ref tr, .int 4, .ref fz, .int nm])), (sl, .inl (cI, 1653, .inl sf)), (tr, .inl (cI, 16, .inl (upd (upd trf (2 : Int32).toNatClampNeg 21) (3 : Int32).toNatClampNeg 20)))] H := hP
  have hD : va_D A [(h, .inr (7, [.ref sl, .int na, .ref zs, .ref ln, .ref ir, .ref tk, .int su, .int le, .ref tb, .int fu, .int ap, .int pp, .ref tr, .int 4, .ref fz, .int nm])), (sl, .inl (cI, 1653, .inl sf)), (tr, .inl (cI, 16, .inl (upd (upd trf (2 : Int32).toNatClampNeg 21) (3 : Int32).toNatClampNeg 20)))] := hD
  clear hw_3
  exact wr_i (v := r_3) hx hb hr hlocks hS () (by trivial) (hP.sub [0, 1, 2] rfl) (hD.sub [0, 1, 2] (by decide) rfl) dX8_markOld_20
set_option maxHeartbeats 4000000 in
set_option maxRecDepth 100000 in
theorem t_X8_size11_1_0 (l : Launch) (D : va_G) (cI cB cQ : ClassId) (sz : Nat) (h : Nat) (sl : Nat) (zs : Nat) (ln : Nat) (ir : Nat) (tk : Nat) (tb : Nat) (tr : Nat) (fz : Nat) (na : Int32) (su : Int32) (le : Int32) (fu : Int32) (ap : Int32) (pp : Int32) (nm : Int32) (v : Int32) (sf : Nat → Int32) (trf : Nat → Int32) (v0 : Int) (hsi : SI sf v0) (h_na : 0 ≤ na.toInt ∧ na.toInt ≤ 24) (h_le : 0 ≤ le.toInt ∧ le.toInt ≤ 120) (h_ap : 0 ≤ ap.toInt ∧ ap.toInt ≤ 120) (h_pp : 0 ≤ pp.toInt ∧ pp.toInt ≤ 120) (h_v : 0 ≤ v.toInt ∧ v.toInt ≤ 2) (h_kd : sf (20 + v.toNatClampNeg) = 1) : mi l yX8_size11 wsX8_size11 ({ frames := 4, cells := 0, slots := 0, locals := 87 }) D cI cB cQ [.ref h, .int v] sz [(h, .inr (7, [.ref sl, .int na, .ref zs, .ref ln, .ref ir, .ref tk, .int su, .int le, .ref tb, .int fu, .int ap, .int pp, .ref tr, .int 0, .ref fz, .int nm])), (sl, .inl (cI, 1653, .inl sf)), (tr, .inl (cI, 16, .inl trf))] (fun (r : Int32) (_u : Unit) => True) (fun _ => [(h, .inr (7, [.ref sl, .int na, .ref zs, .ref ln, .ref ir, .ref tk, .int su, .int le, .ref tb, .int fu, .int ap, .int pp, .ref tr, .int 4, .ref fz, .int nm])), (sl, .inl (cI, 1653, .inl sf)), (tr, .inl (cI, 16, .inl (upd (upd (upd (upd trf (0 : Int32).toNatClampNeg 11) (1 : Int32).toNatClampNeg 10) (2 : Int32).toNatClampNeg 21) (3 : Int32).toNatClampNeg 20)))]) 0 0 := by
  refine wm_i (cc := cX8_size11) (maxL := 3) (ret := (some .int)) (by decide) rfl (Nat.le_of_ble_eq_true rfl) ?_
  intro p e s m below meth c A ls hx hb hr hml hown hts hlocks hin hP hK hD hN hA hl hS
  have hown : s.vm.findClass RX8 = some m.cls := hown
  have hl : lv_has ls 3 [(0, .ref h), (1, .int v)] := hl
  change W p l e ({ frames := 4, cells := 0, slots := 0, locals := 87 }) s m ([.ref h, .int v] : List Value).toArray below meth c s.heap [] 0 0 (MQ below (va_Qi (fun (r : Int32) (_u : Unit) => True) (fun u t => wb D A ((fun _ => [(h, .inr (7, [.ref sl, .int na, .ref zs, .ref ln, .ref ir, .ref tk, .int su, .int le, .ref tb, .int fu, .int ap, .int pp, .ref tr, .int 4, .ref fz, .int nm])), (sl, .inl (cI, 1653, .inl sf)), (tr, .inl (cI, 16, .inl (upd (upd (upd (upd trf (0 : Int32).toNatClampNeg 11) (1 : Int32).toNatClampNeg 10) (2 : Int32).toNatClampNeg 21) (3 : Int32).toNatClampNeg 20)))]) u) t) A) ([.ref h, .int v] : List Value).toArray s 0 0 A) (F0 m 0 ls [])
  refine lv_aload_n hx hb dX8_size11_0 rfl (lv_at hl 0 rfl) ?_
  refine lv_bipush (v := 11) hx hb dX8_size11_1 (by decide) ?_
  have k_1 := (t_X8_begins_11_0 l D cI cB cQ s.heap.size h sl zs ln ir tk tb tr fz na su le fu ap pp nm trf (by omega) (by omega) (by omega) (by omega))
  refine wc_v (WC := [(h, .inr (7, [.ref sl, .int na, .ref zs, .ref ln, .ref ir, .ref tk, .int su, .int le, .ref tb, .int fu, .int ap, .int pp, .ref tr, .int 0, .ref fz, .int nm])), (tr, .inl (cI, 16, .inl trf))]) (WR := [(sl, .inl (cI, 1653, .inl sf))]) (va_runV (As := [.int 11]) (rest := []) ⟨hx, hb, hml, hown, hts⟩ k_1 (cwV 1 hts gX8_size11_X8_begins rfl rfl rfl (by decide +kernel) ⟨Nat.le_of_ble_eq_true rfl, Nat.le_of_ble_eq_true rfl⟩) (wp_V hP hK hD hN [0, 2] (by decide) rfl (ci := 7) rfl rfl) rfl rfl hl.1 rfl (lv_room (Nat.le_of_ble_eq_true rfl)) dX8_size11_3 ⟨Nat.le_of_ble_eq_true rfl, Nat.le_of_ble_eq_true rfl⟩) hP hD hS hA [0, 2] [1] rfl rfl (by decide) (by decide) (fun u_1 H locs hw_1 hP hD hS => ?_)
  clear k_1
  have hP : va_P D kl [(sl, .inl (cI, 1653, .inl sf)), (h, .inr (7, [.ref sl, .int na, .ref zs, .ref ln, .ref ir, .ref tk, .int su, .int le, .ref tb, .int fu, .int ap, .int pp, .ref tr, .int 1, .ref fz, .int nm])), (tr, .inl (cI, 16, .inl (upd trf (0 : Int32).toNatClampNeg 11)))] H := hP
  have hD : va_D A [(sl, .inl (cI, 1653, .inl sf)), (h, .inr (7, [.ref sl, .int na, .ref zs, .ref ln, .ref ir, .ref tk, .int su, .int le, .ref tb, .int fu, .int ap, .int pp, .ref tr, .int 1, .ref fz, .int nm])), (tr, .inl (cI, 16, .inl (upd trf (0 : Int32).toNatClampNeg 11)))] := hD
  clear hw_1
  refine lv_aload_n hx hb dX8_size11_6 rfl (lv_at hl 0 rfl) ?_
  refine lv_iload_n hx hb dX8_size11_7 rfl (lv_at hl 1 rfl) ?_
  have k_2 := (t_X8_size10_0_1 l D cI cB cQ H.size h sl zs ln ir tk tb tr fz na su le fu ap pp nm v sf (upd trf (0 : Int32).toNatClampNeg 11) v0 hsi (by omega) (by omega) (by omega) (by omega) (by omega))
  refine wc_i (WC := [(h, .inr (7, [.ref sl, .int na, .ref zs, .ref ln, .ref ir, .ref tk, .int su, .int le, .ref tb, .int fu, .int ap, .int pp, .ref tr, .int 1, .ref fz, .int nm])), (sl, .inl (cI, 1653, .inl sf)), (tr, .inl (cI, 16, .inl (upd trf (0 : Int32).toNatClampNeg 11)))]) (WR := []) (va_runV (As := [.int v]) (rest := []) ⟨hx, hb, hml, hown, hts⟩ k_2 (cwV 1 hts gX8_size11_X8_size10 rfl rfl rfl (by decide +kernel) ⟨Nat.le_of_ble_eq_true rfl, Nat.le_of_ble_eq_true rfl⟩) (wp_V hP hK hD hN [1, 0, 2] (by decide) rfl (ci := 7) rfl rfl) rfl rfl hl.1 rfl (lv_room (Nat.le_of_ble_eq_true rfl)) dX8_size11_8 ⟨Nat.le_of_ble_eq_true rfl, Nat.le_of_ble_eq_true rfl⟩) hP hD hS hA [1, 0, 2] [] rfl rfl (by decide) (by decide) (fun r_2 u_2 H locs hw_2 hP hD hS => ?_)
  clear k_2
  have hP : va_P D kl [(h, .inr (7, [.ref sl, .int na, .ref zs, .ref ln, .ref ir, .ref tk, .int su, .int le, .ref tb, .int fu, .int ap, .int pp, .ref tr, .int 2, .ref fz, .int nm])), (sl, .inl (cI, 1653, .inl sf)), (tr, .inl (cI, 16, .inl (upd (upd trf (0 : Int32).toNatClampNeg 11) (1 : Int32).toNatClampNeg 10)))] H := hP
  have hD : va_D A [(h, .inr (7, [.ref sl, .int na, .ref zs, .ref ln, .ref ir, .ref tk, .int su, .int le, .ref tb, .int fu, .int ap, .int pp, .ref tr, .int 2, .ref fz, .int nm])), (sl, .inl (cI, 1653, .inl sf)), (tr, .inl (cI, 16, .inl (upd (upd trf (0 : Int32).toNatClampNeg 11) (1 : Int32).toNatClampNeg 10)))] := hD
  clear hw_2
  refine lv_istore_n (lv' := [(2, .int r_2), (0, .ref h), (1, .int v)]) hx hb dX8_size11_11 rfl hl (by decide) rfl (fun ls hl => ?_)
  refine lv_iload_n hx hb dX8_size11_12 rfl (lv_at hl 0 rfl) ?_
  refine lv_aload_n hx hb dX8_size11_13 rfl (lv_at hl 1 rfl) ?_
  refine lv_iload_n hx hb dX8_size11_14 rfl (lv_at hl 2 rfl) ?_
  have k_3 := (t_X8_markOld_1_2 l D cI cB cQ H.size h sl zs ln ir tk tb tr fz na su le fu ap pp nm v sf (upd (upd trf (0 : Int32).toNatClampNeg 11) (1 : Int32).toNatClampNeg 10) v0 hsi (by omega) (by omega) (by omega) (by omega) (by omega) (h_kd))
  refine wc_i (WC := [(h, .inr (7, [.ref sl, .int na, .ref zs, .ref ln, .ref ir, .ref tk, .int su, .int le, .ref tb, .int fu, .int ap, .int pp, .ref tr, .int 2, .ref fz, .int nm])), (sl, .inl (cI, 1653, .inl sf)), (tr, .inl (cI, 16, .inl (upd (upd trf (0 : Int32).toNatClampNeg 11) (1 : Int32).toNatClampNeg 10)))]) (WR := []) (va_runV (As := [.int v]) (rest := [.int r_2]) ⟨hx, hb, hml, hown, hts⟩ k_3 (cwV 1 hts gX8_size11_X8_markOld rfl rfl rfl (by decide +kernel) ⟨Nat.le_of_ble_eq_true rfl, Nat.le_of_ble_eq_true rfl⟩) (wp_V hP hK hD hN [0, 1, 2] (by decide) rfl (ci := 7) rfl rfl) rfl rfl hl.1 rfl (lv_room (Nat.le_of_ble_eq_true rfl)) dX8_size11_15 ⟨Nat.le_of_ble_eq_true rfl, Nat.le_of_ble_eq_true rfl⟩) hP hD hS hA [0, 1, 2] [] rfl rfl (by decide) (by decide) (fun r_3 u_3 H locs hw_3 hP hD hS => ?_)
  clear k_3
  have hP : va_P D kl [(h, .inr (7, [.ref sl, .int na, .ref zs, .ref ln, .ref ir, .ref tk, .int su, .int le, .ref tb, .int fu, .int ap, .int pp, .ref tr, .int 4, .ref fz, .int nm])), (sl, .inl (cI, 1653, .inl sf)), (tr, .inl (cI, 16, .inl (upd (upd (upd (upd trf (0 : Int32).toNatClampNeg 11) (1 : Int32).toNatClampNeg 10) (2 : Int32).toNatClampNeg 21) (3 : Int32).toNatClampNeg 20)))] H := hP
  have hD : va_D A [(h, .inr (7, [.ref sl, .int na, .ref zs, .ref ln, .ref ir, .ref tk, .int su, .int le, .ref tb, .int fu, .int ap, .int pp, .ref tr, .int 4, .ref fz, .int nm])), (sl, .inl (cI, 1653, .inl sf)), (tr, .inl (cI, 16, .inl (upd (upd (upd (upd trf (0 : Int32).toNatClampNeg 11) (1 : Int32).toNatClampNeg 10) (2 : Int32).toNatClampNeg 21) (3 : Int32).toNatClampNeg 20)))] := hD
  clear hw_3
  refine lv_iadd hx hb dX8_size11_18 ?_
  refine lv_topi (fun x_4 ex_4 => ?_)
  clear ex_4
  exact wr_i (v := x_4) hx hb hr hlocks hS () (by trivial) (hP.sub [0, 1, 2] rfl) (hD.sub [0, 1, 2] (by decide) rfl) dX8_size11_19
set_option maxHeartbeats 4000000 in
set_option maxRecDepth 100000 in
theorem t_X8_sizeOf_1_0 (l : Launch) (D : va_G) (cI cB cQ : ClassId) (sz : Nat) (h : Nat) (sl : Nat) (zs : Nat) (ln : Nat) (ir : Nat) (tk : Nat) (tb : Nat) (tr : Nat) (fz : Nat) (na : Int32) (su : Int32) (le : Int32) (fu : Int32) (ap : Int32) (pp : Int32) (nm : Int32) (v : Int32) (sf : Nat → Int32) (trf : Nat → Int32) (v0 : Int) (hsi : SI sf v0) (h_na : 0 ≤ na.toInt ∧ na.toInt ≤ 24) (h_le : 0 ≤ le.toInt ∧ le.toInt ≤ 120) (h_ap : 0 ≤ ap.toInt ∧ ap.toInt ≤ 120) (h_pp : 0 ≤ pp.toInt ∧ pp.toInt ≤ 120) (h_v : 0 ≤ v.toInt ∧ v.toInt ≤ 2) (h_kd : sf (20 + v.toNatClampNeg) = 1) : mi l yX8_sizeOf wsX8_sizeOf ({ frames := 5, cells := 0, slots := 0, locals := 109 }) D cI cB cQ [.ref h, .int v] sz [(h, .inr (7, [.ref sl, .int na, .ref zs, .ref ln, .ref ir, .ref tk, .int su, .int le, .ref tb, .int fu, .int ap, .int pp, .ref tr, .int 0, .ref fz, .int nm])), (sl, .inl (cI, 1653, .inl sf)), (tr, .inl (cI, 16, .inl trf))] (fun (r : Int32) (_u : Unit) => True) (fun _ => [(h, .inr (7, [.ref sl, .int na, .ref zs, .ref ln, .ref ir, .ref tk, .int su, .int le, .ref tb, .int fu, .int ap, .int pp, .ref tr, .int 4, .ref fz, .int nm])), (sl, .inl (cI, 1653, .inl sf)), (tr, .inl (cI, 16, .inl (upd (upd (upd (upd trf (0 : Int32).toNatClampNeg 11) (1 : Int32).toNatClampNeg 10) (2 : Int32).toNatClampNeg 21) (3 : Int32).toNatClampNeg 20)))]) 0 0 := by
  refine wm_i (cc := cX8_sizeOf) (maxL := 3) (ret := (some .int)) (by decide) rfl (Nat.le_of_ble_eq_true rfl) ?_
  intro p e s m below meth c A ls hx hb hr hml hown hts hlocks hin hP hK hD hN hA hl hS
  have hown : s.vm.findClass RX8 = some m.cls := hown
  have hl : lv_has ls 3 [(0, .ref h), (1, .int v)] := hl
  change W p l e ({ frames := 5, cells := 0, slots := 0, locals := 109 }) s m ([.ref h, .int v] : List Value).toArray below meth c s.heap [] 0 0 (MQ below (va_Qi (fun (r : Int32) (_u : Unit) => True) (fun u t => wb D A ((fun _ => [(h, .inr (7, [.ref sl, .int na, .ref zs, .ref ln, .ref ir, .ref tk, .int su, .int le, .ref tb, .int fu, .int ap, .int pp, .ref tr, .int 4, .ref fz, .int nm])), (sl, .inl (cI, 1653, .inl sf)), (tr, .inl (cI, 16, .inl (upd (upd (upd (upd trf (0 : Int32).toNatClampNeg 11) (1 : Int32).toNatClampNeg 10) (2 : Int32).toNatClampNeg 21) (3 : Int32).toNatClampNeg 20)))]) u) t) A) ([.ref h, .int v] : List Value).toArray s 0 0 A) (F0 m 0 ls [])
  refine lv_aload_n hx hb dX8_sizeOf_0 rfl (lv_at hl 0 rfl) ?_
  refine va_get (D := D) (ci := 7) (v := .ref sl) (C := RX8) (T := TX8) (N := 16) hx hb hts (fun _ h => List.mem_cons_of_mem _ (List.mem_append_right _ h)) hown hK hP 0 rfl rfl 0 (by decide) (hts (.fieldLink RX8 7 "WinterWalkModel" "slot" "[I") (List.mem_of_getElem? (i := 1) rfl)) (fun _ h9 => h9) rfl dX8_sizeOf_1 ?_
  refine lv_bipush (v := 20) hx hb dX8_sizeOf_4 (by decide) ?_
  refine lv_iload_n hx hb dX8_sizeOf_6 rfl (lv_at hl 1 rfl) ?_
  refine lv_iadd hx hb dX8_sizeOf_7 ?_
  refine lv_topi (fun x_1 ex_1 => ?_)
  have e_1 : x_1.toInt = 20 + v.toInt := by rw [ex_1]; exact zi_add (by decide) (rfl) (by omega) (by omega)
  clear ex_1
  refine va_iald hx hb hK hP 1 0 rfl rfl (zi_in (by omega) (by omega)) dX8_sizeOf_8 ?_
  refine lv_topi (fun x_2 ex_2 => ?_)
  obtain rfl : x_2 = 1 := ex_2.trans ((congrArg sf (show (x_1 : Int32).toNatClampNeg = 20 + v.toNatClampNeg from by have h9 := zi_cn (x := x_1) (by omega); have h8 := zi_cn (x := v) (by omega); omega)).trans h_kd)
  refine lv_istore_n (lv' := [(2, .int 1), (0, .ref h), (1, .int v)]) hx hb dX8_sizeOf_9 rfl hl (by decide) rfl (fun ls hl => ?_)
  refine lv_iload_n hx hb dX8_sizeOf_10 rfl (lv_at hl 0 rfl) ?_
  refine lv_iconst (v := 1) hx hb dX8_sizeOf_11 (by decide) ?_
  refine lv_icmp_eq (tgt := 20) hx hb dX8_sizeOf_12 (by decide) (fun _ => ?_) (fun c9 => absurd (by decide) c9)
  refine lv_aload_n hx hb dX8_sizeOf_20 rfl (lv_at hl 1 rfl) ?_
  refine lv_iload_n hx hb dX8_sizeOf_21 rfl (lv_at hl 2 rfl) ?_
  have k_3 := (t_X8_size11_1_0 l D cI cB cQ s.heap.size h sl zs ln ir tk tb tr fz na su le fu ap pp nm v sf trf v0 hsi (by omega) (by omega) (by omega) (by omega) (by omega) (h_kd))
  refine wc_i (WC := [(h, .inr (7, [.ref sl, .int na, .ref zs, .ref ln, .ref ir, .ref tk, .int su, .int le, .ref tb, .int fu, .int ap, .int pp, .ref tr, .int 0, .ref fz, .int nm])), (sl, .inl (cI, 1653, .inl sf)), (tr, .inl (cI, 16, .inl trf))]) (WR := []) (va_runV (As := [.int v]) (rest := []) ⟨hx, hb, hml, hown, hts⟩ k_3 (cwV 1 hts gX8_sizeOf_X8_size11 rfl rfl rfl (by decide +kernel) ⟨Nat.le_of_ble_eq_true rfl, Nat.le_of_ble_eq_true rfl⟩) (wp_V hP hK hD hN [0, 1, 2] (by decide) rfl (ci := 7) rfl rfl) rfl rfl hl.1 rfl (lv_room (Nat.le_of_ble_eq_true rfl)) dX8_sizeOf_22 ⟨Nat.le_of_ble_eq_true rfl, Nat.le_of_ble_eq_true rfl⟩) hP hD hS hA [0, 1, 2] [] rfl rfl (by decide) (by decide) (fun r_3 u_3 H locs hw_3 hP hD hS => ?_)
  clear k_3
  have hP : va_P D kl [(h, .inr (7, [.ref sl, .int na, .ref zs, .ref ln, .ref ir, .ref tk, .int su, .int le, .ref tb, .int fu, .int ap, .int pp, .ref tr, .int 4, .ref fz, .int nm])), (sl, .inl (cI, 1653, .inl sf)), (tr, .inl (cI, 16, .inl (upd (upd (upd (upd trf (0 : Int32).toNatClampNeg 11) (1 : Int32).toNatClampNeg 10) (2 : Int32).toNatClampNeg 21) (3 : Int32).toNatClampNeg 20)))] H := hP
  have hD : va_D A [(h, .inr (7, [.ref sl, .int na, .ref zs, .ref ln, .ref ir, .ref tk, .int su, .int le, .ref tb, .int fu, .int ap, .int pp, .ref tr, .int 4, .ref fz, .int nm])), (sl, .inl (cI, 1653, .inl sf)), (tr, .inl (cI, 16, .inl (upd (upd (upd (upd trf (0 : Int32).toNatClampNeg 11) (1 : Int32).toNatClampNeg 10) (2 : Int32).toNatClampNeg 21) (3 : Int32).toNatClampNeg 20)))] := hD
  clear hw_3
  exact wr_i (v := r_3) hx hb hr hlocks hS () (by trivial) (hP.sub [0, 1, 2] rfl) (hD.sub [0, 1, 2] (by decide) rfl) dX8_sizeOf_25
set_option maxHeartbeats 4000000 in
set_option maxRecDepth 100000 in
theorem t_X8_begins_21_0 (l : Launch) (D : va_G) (cI cB cQ : ClassId) (sz : Nat) (h : Nat) (sl : Nat) (zs : Nat) (ln : Nat) (ir : Nat) (tk : Nat) (tb : Nat) (tr : Nat) (fz : Nat) (na : Int32) (su : Int32) (le : Int32) (fu : Int32) (ap : Int32) (pp : Int32) (nm : Int32) (trf : Nat → Int32) (h_na : 0 ≤ na.toInt ∧ na.toInt ≤ 24) (h_le : 0 ≤ le.toInt ∧ le.toInt ≤ 120) (h_ap : 0 ≤ ap.toInt ∧ ap.toInt ≤ 120) (h_pp : 0 ≤ pp.toInt ∧ pp.toInt ≤ 120) : mv l yX8_begins wsX8_begins ({ frames := 0, cells := 0, slots := 0, locals := 0 }) D cI cB cQ [.ref h, .int 21] sz [(h, .inr (7, [.ref sl, .int na, .ref zs, .ref ln, .ref ir, .ref tk, .int su, .int le, .ref tb, .int fu, .int ap, .int pp, .ref tr, .int 0, .ref fz, .int nm])), (tr, .inl (cI, 16, .inl trf))] (fun (_u : Unit) => True) (fun _ => [(h, .inr (7, [.ref sl, .int na, .ref zs, .ref ln, .ref ir, .ref tk, .int su, .int le, .ref tb, .int fu, .int ap, .int pp, .ref tr, .int 1, .ref fz, .int nm])), (tr, .inl (cI, 16, .inl (upd trf (0 : Int32).toNatClampNeg 21)))]) 0 0 := by
  refine wm_v (cc := cX8_begins) (maxL := 2) (ret := none) (by decide) rfl (Nat.le_of_ble_eq_true rfl) ?_
  intro p e s m below meth c A ls hx hb hr hml hown hts hlocks hin hP hK hD hN hA hl hS
  have hown : s.vm.findClass RX8 = some m.cls := hown
  have hl : lv_has ls 2 [(0, .ref h), (1, .int 21)] := hl
  change W p l e ({ frames := 0, cells := 0, slots := 0, locals := 0 }) s m ([.ref h, .int 21] : List Value).toArray below meth c s.heap [] 0 0 (MQ below (va_Qv (fun (_u : Unit) => True) (fun u t => wb D A ((fun _ => [(h, .inr (7, [.ref sl, .int na, .ref zs, .ref ln, .ref ir, .ref tk, .int su, .int le, .ref tb, .int fu, .int ap, .int pp, .ref tr, .int 1, .ref fz, .int nm])), (tr, .inl (cI, 16, .inl (upd trf (0 : Int32).toNatClampNeg 21)))]) u) t) A) ([.ref h, .int 21] : List Value).toArray s 0 0 A) (F0 m 0 ls [])
  refine lv_aload_n hx hb dX8_begins_0 rfl (lv_at hl 0 rfl) ?_
  refine va_get (D := D) (ci := 7) (v := .int 0) (C := RX8) (T := TX8) (N := 16) hx hb hts (fun _ h => List.mem_cons_of_mem _ (List.mem_append_right _ h)) hown hK hP 0 rfl rfl 13 (by decide) (hts (.fieldLink RX8 208 "WinterWalkModel" "traced" "I") (List.mem_of_getElem? (i := 1) rfl)) (fun _ h9 => h9) rfl dX8_begins_1 ?_
  refine lv_bipush (v := 16) hx hb dX8_begins_4 (by decide) ?_
  refine lv_icmp_ge (tgt := 29) hx hb dX8_begins_6 (by decide) (fun c9 => absurd c9 (by decide)) (fun _ => ?_)
  refine lv_aload_n hx hb dX8_begins_9 rfl (lv_at hl 0 rfl) ?_
  refine va_get (D := D) (ci := 7) (v := .ref tr) (C := RX8) (T := TX8) (N := 16) hx hb hts (fun _ h => List.mem_cons_of_mem _ (List.mem_append_right _ h)) hown hK hP 0 rfl rfl 12 (by decide) (hts (.fieldLink RX8 29 "WinterWalkModel" "trace" "[I") (List.mem_of_getElem? (i := 2) rfl)) (fun _ h9 => h9) rfl dX8_begins_10 ?_
  refine lv_aload_n hx hb dX8_begins_13 rfl (lv_at hl 0 rfl) ?_
  refine va_get (D := D) (ci := 7) (v := .int 0) (C := RX8) (T := TX8) (N := 16) hx hb hts (fun _ h => List.mem_cons_of_mem _ (List.mem_append_right _ h)) hown hK hP 0 rfl rfl 13 (by decide) (hts (.fieldLink RX8 208 "WinterWalkModel" "traced" "I") (List.mem_of_getElem? (i := 1) rfl)) (fun _ h9 => h9) rfl dX8_begins_14 ?_
  refine lv_iload_n hx hb dX8_begins_17 rfl (lv_at hl 1 rfl) ?_
  refine va_iast hx hb hK hP hD hS 1 0 rfl rfl (zi_in (by decide) (by decide)) dX8_begins_18 (fun H locs hP hD hS => ?_)
  have hP : va_P D kl [(h, .inr (7, [.ref sl, .int na, .ref zs, .ref ln, .ref ir, .ref tk, .int su, .int le, .ref tb, .int fu, .int ap, .int pp, .ref tr, .int 0, .ref fz, .int nm])), (tr, .inl (cI, 16, .inl (upd trf (0 : Int32).toNatClampNeg 21)))] H := hP
  have hD : va_D A [(h, .inr (7, [.ref sl, .int na, .ref zs, .ref ln, .ref ir, .ref tk, .int su, .int le, .ref tb, .int fu, .int ap, .int pp, .ref tr, .int 0, .ref fz, .int nm])), (tr, .inl (cI, 16, .inl (upd trf (0 : Int32).toNatClampNeg 21)))] := hD
  refine lv_aload_n hx hb dX8_begins_19 rfl (lv_at hl 0 rfl) ?_
  refine lv_dup hx hb dX8_begins_20 rfl ?_
  refine va_get (D := D) (ci := 7) (v := .int 0) (C := RX8) (T := TX8) (N := 16) hx hb hts (fun _ h => List.mem_cons_of_mem _ (List.mem_append_right _ h)) hown hK hP 0 rfl rfl 13 (by decide) (hts (.fieldLink RX8 208 "WinterWalkModel" "traced" "I") (List.mem_of_getElem? (i := 1) rfl)) (fun _ h9 => h9) rfl dX8_begins_21 ?_
  refine lv_iconst (v := 1) hx hb dX8_begins_24 (by decide) ?_
  refine lv_iadd hx hb dX8_begins_25 ?_
  refine lv_topi (fun x_1 ex_1 => ?_)
  obtain rfl : x_1 = 1 := ex_1.trans (by decide)
  refine va_put (D := D) (ci := 7) (v := .int 1) (ty := .int) (C := RX8) (T := TX8) (N := 16) hx hb hts (fun _ h => List.mem_cons_of_mem _ (List.mem_append_right _ h)) tyX8 tyX8_ok nmX8 hown hK hP hD hS 0 rfl rfl 13 (by decide) (hts (.fieldLink RX8 208 "WinterWalkModel" "traced" "I") (List.mem_of_getElem? (i := 1) rfl)) (fun _ h9 => h9) rfl (by decide +kernel) rfl rfl (Nat.le_of_ble_eq_true rfl) dX8_begins_26 (fun H locs hP hD hS => ?_)
  have hP : va_P D kl [(h, .inr (7, [.ref sl, .int na, .ref zs, .ref ln, .ref ir, .ref tk, .int su, .int le, .ref tb, .int fu, .int ap, .int pp, .ref tr, .int 1, .ref fz, .int nm])), (tr, .inl (cI, 16, .inl (upd trf (0 : Int32).toNatClampNeg 21)))] H := hP
  have hD : va_D A [(h, .inr (7, [.ref sl, .int na, .ref zs, .ref ln, .ref ir, .ref tk, .int su, .int le, .ref tb, .int fu, .int ap, .int pp, .ref tr, .int 1, .ref fz, .int nm])), (tr, .inl (cI, 16, .inl (upd trf (0 : Int32).toNatClampNeg 21)))] := hD
  exact wr_v hx hb hr hlocks hS () (by trivial) (hP.sub [0, 1] rfl) (hD.sub [0, 1] (by decide) rfl) dX8_begins_29
set_option maxHeartbeats 4000000 in
set_option maxRecDepth 100000 in
theorem t_X8_begins_20_1 (l : Launch) (D : va_G) (cI cB cQ : ClassId) (sz : Nat) (h : Nat) (sl : Nat) (zs : Nat) (ln : Nat) (ir : Nat) (tk : Nat) (tb : Nat) (tr : Nat) (fz : Nat) (na : Int32) (su : Int32) (le : Int32) (fu : Int32) (ap : Int32) (pp : Int32) (nm : Int32) (trf : Nat → Int32) (h_na : 0 ≤ na.toInt ∧ na.toInt ≤ 24) (h_le : 0 ≤ le.toInt ∧ le.toInt ≤ 120) (h_ap : 0 ≤ ap.toInt ∧ ap.toInt ≤ 120) (h_pp : 0 ≤ pp.toInt ∧ pp.toInt ≤ 120) : mv l yX8_begins wsX8_begins ({ frames := 0, cells := 0, slots := 0, locals := 0 }) D cI cB cQ [.ref h, .int 20] sz [(h, .inr (7, [.ref sl, .int na, .ref zs, .ref ln, .ref ir, .ref tk, .int su, .int le, .ref tb, .int fu, .int ap, .int pp, .ref tr, .int 1, .ref fz, .int nm])), (tr, .inl (cI, 16, .inl trf))] (fun (_u : Unit) => True) (fun _ => [(h, .inr (7, [.ref sl, .int na, .ref zs, .ref ln, .ref ir, .ref tk, .int su, .int le, .ref tb, .int fu, .int ap, .int pp, .ref tr, .int 2, .ref fz, .int nm])), (tr, .inl (cI, 16, .inl (upd trf (1 : Int32).toNatClampNeg 20)))]) 0 0 := by
  refine wm_v (cc := cX8_begins) (maxL := 2) (ret := none) (by decide) rfl (Nat.le_of_ble_eq_true rfl) ?_
  intro p e s m below meth c A ls hx hb hr hml hown hts hlocks hin hP hK hD hN hA hl hS
  have hown : s.vm.findClass RX8 = some m.cls := hown
  have hl : lv_has ls 2 [(0, .ref h), (1, .int 20)] := hl
  change W p l e ({ frames := 0, cells := 0, slots := 0, locals := 0 }) s m ([.ref h, .int 20] : List Value).toArray below meth c s.heap [] 0 0 (MQ below (va_Qv (fun (_u : Unit) => True) (fun u t => wb D A ((fun _ => [(h, .inr (7, [.ref sl, .int na, .ref zs, .ref ln, .ref ir, .ref tk, .int su, .int le, .ref tb, .int fu, .int ap, .int pp, .ref tr, .int 2, .ref fz, .int nm])), (tr, .inl (cI, 16, .inl (upd trf (1 : Int32).toNatClampNeg 20)))]) u) t) A) ([.ref h, .int 20] : List Value).toArray s 0 0 A) (F0 m 0 ls [])
  refine lv_aload_n hx hb dX8_begins_0 rfl (lv_at hl 0 rfl) ?_
  refine va_get (D := D) (ci := 7) (v := .int 1) (C := RX8) (T := TX8) (N := 16) hx hb hts (fun _ h => List.mem_cons_of_mem _ (List.mem_append_right _ h)) hown hK hP 0 rfl rfl 13 (by decide) (hts (.fieldLink RX8 208 "WinterWalkModel" "traced" "I") (List.mem_of_getElem? (i := 1) rfl)) (fun _ h9 => h9) rfl dX8_begins_1 ?_
  refine lv_bipush (v := 16) hx hb dX8_begins_4 (by decide) ?_
  refine lv_icmp_ge (tgt := 29) hx hb dX8_begins_6 (by decide) (fun c9 => absurd c9 (by decide)) (fun _ => ?_)
  refine lv_aload_n hx hb dX8_begins_9 rfl (lv_at hl 0 rfl) ?_
  refine va_get (D := D) (ci := 7) (v := .ref tr) (C := RX8) (T := TX8) (N := 16) hx hb hts (fun _ h => List.mem_cons_of_mem _ (List.mem_append_right _ h)) hown hK hP 0 rfl rfl 12 (by decide) (hts (.fieldLink RX8 29 "WinterWalkModel" "trace" "[I") (List.mem_of_getElem? (i := 2) rfl)) (fun _ h9 => h9) rfl dX8_begins_10 ?_
  refine lv_aload_n hx hb dX8_begins_13 rfl (lv_at hl 0 rfl) ?_
  refine va_get (D := D) (ci := 7) (v := .int 1) (C := RX8) (T := TX8) (N := 16) hx hb hts (fun _ h => List.mem_cons_of_mem _ (List.mem_append_right _ h)) hown hK hP 0 rfl rfl 13 (by decide) (hts (.fieldLink RX8 208 "WinterWalkModel" "traced" "I") (List.mem_of_getElem? (i := 1) rfl)) (fun _ h9 => h9) rfl dX8_begins_14 ?_
  refine lv_iload_n hx hb dX8_begins_17 rfl (lv_at hl 1 rfl) ?_
  refine va_iast hx hb hK hP hD hS 1 0 rfl rfl (zi_in (by decide) (by decide)) dX8_begins_18 (fun H locs hP hD hS => ?_)
  have hP : va_P D kl [(h, .inr (7, [.ref sl, .int na, .ref zs, .ref ln, .ref ir, .ref tk, .int su, .int le, .ref tb, .int fu, .int ap, .int pp, .ref tr, .int 1, .ref fz, .int nm])), (tr, .inl (cI, 16, .inl (upd trf (1 : Int32).toNatClampNeg 20)))] H := hP
  have hD : va_D A [(h, .inr (7, [.ref sl, .int na, .ref zs, .ref ln, .ref ir, .ref tk, .int su, .int le, .ref tb, .int fu, .int ap, .int pp, .ref tr, .int 1, .ref fz, .int nm])), (tr, .inl (cI, 16, .inl (upd trf (1 : Int32).toNatClampNeg 20)))] := hD
  refine lv_aload_n hx hb dX8_begins_19 rfl (lv_at hl 0 rfl) ?_
  refine lv_dup hx hb dX8_begins_20 rfl ?_
  refine va_get (D := D) (ci := 7) (v := .int 1) (C := RX8) (T := TX8) (N := 16) hx hb hts (fun _ h => List.mem_cons_of_mem _ (List.mem_append_right _ h)) hown hK hP 0 rfl rfl 13 (by decide) (hts (.fieldLink RX8 208 "WinterWalkModel" "traced" "I") (List.mem_of_getElem? (i := 1) rfl)) (fun _ h9 => h9) rfl dX8_begins_21 ?_
  refine lv_iconst (v := 1) hx hb dX8_begins_24 (by decide) ?_
  refine lv_iadd hx hb dX8_begins_25 ?_
  refine lv_topi (fun x_1 ex_1 => ?_)
  obtain rfl : x_1 = 2 := ex_1.trans (by decide)
  refine va_put (D := D) (ci := 7) (v := .int 2) (ty := .int) (C := RX8) (T := TX8) (N := 16) hx hb hts (fun _ h => List.mem_cons_of_mem _ (List.mem_append_right _ h)) tyX8 tyX8_ok nmX8 hown hK hP hD hS 0 rfl rfl 13 (by decide) (hts (.fieldLink RX8 208 "WinterWalkModel" "traced" "I") (List.mem_of_getElem? (i := 1) rfl)) (fun _ h9 => h9) rfl (by decide +kernel) rfl rfl (Nat.le_of_ble_eq_true rfl) dX8_begins_26 (fun H locs hP hD hS => ?_)
  have hP : va_P D kl [(h, .inr (7, [.ref sl, .int na, .ref zs, .ref ln, .ref ir, .ref tk, .int su, .int le, .ref tb, .int fu, .int ap, .int pp, .ref tr, .int 2, .ref fz, .int nm])), (tr, .inl (cI, 16, .inl (upd trf (1 : Int32).toNatClampNeg 20)))] H := hP
  have hD : va_D A [(h, .inr (7, [.ref sl, .int na, .ref zs, .ref ln, .ref ir, .ref tk, .int su, .int le, .ref tb, .int fu, .int ap, .int pp, .ref tr, .int 2, .ref fz, .int nm])), (tr, .inl (cI, 16, .inl (upd trf (1 : Int32).toNatClampNeg 20)))] := hD
  exact wr_v hx hb hr hlocks hS () (by trivial) (hP.sub [0, 1] rfl) (hD.sub [0, 1] (by decide) rfl) dX8_begins_29
set_option maxHeartbeats 4000000 in
set_option maxRecDepth 100000 in
theorem t_X8_mark20_0_1 (l : Launch) (D : va_G) (cI cB cQ : ClassId) (sz : Nat) (h : Nat) (sl : Nat) (zs : Nat) (ln : Nat) (ir : Nat) (tk : Nat) (tb : Nat) (tr : Nat) (fz : Nat) (na : Int32) (su : Int32) (le : Int32) (fu : Int32) (ap : Int32) (pp : Int32) (nm : Int32) (v : Int32) (sf : Nat → Int32) (trf : Nat → Int32) (v0 : Int) (hsi : SI sf v0) (h_na : 0 ≤ na.toInt ∧ na.toInt ≤ 24) (h_le : 0 ≤ le.toInt ∧ le.toInt ≤ 120) (h_ap : 0 ≤ ap.toInt ∧ ap.toInt ≤ 120) (h_pp : 0 ≤ pp.toInt ∧ pp.toInt ≤ 120) (h_v : 0 ≤ v.toInt ∧ v.toInt ≤ 2) : mi l yX8_mark20 wsX8_mark20 ({ frames := 1, cells := 0, slots := 0, locals := 21 }) D cI cB cQ [.ref h, .int v] sz [(h, .inr (7, [.ref sl, .int na, .ref zs, .ref ln, .ref ir, .ref tk, .int su, .int le, .ref tb, .int fu, .int ap, .int pp, .ref tr, .int 1, .ref fz, .int nm])), (sl, .inl (cI, 1653, .inl sf)), (tr, .inl (cI, 16, .inl trf))] (fun (r : Int32) (_u : Unit) => True) (fun _ => [(h, .inr (7, [.ref sl, .int na, .ref zs, .ref ln, .ref ir, .ref tk, .int su, .int le, .ref tb, .int fu, .int ap, .int pp, .ref tr, .int 2, .ref fz, .int nm])), (sl, .inl (cI, 1653, .inl sf)), (tr, .inl (cI, 16, .inl (upd trf (1 : Int32).toNatClampNeg 20)))]) 0 0 := by
  refine wm_i (cc := cX8_mark20) (maxL := 2) (ret := (some .int)) (by decide) rfl (Nat.le_of_ble_eq_true rfl) ?_
  intro p e s m below meth c A ls hx hb hr hml hown hts hlocks hin hP hK hD hN hA hl hS
  have hown : s.vm.findClass RX8 = some m.cls := hown
  have hl : lv_has ls 2 [(0, .ref h), (1, .int v)] := hl
  change W p l e ({ frames := 1, cells := 0, slots := 0, locals := 21 }) s m ([.ref h, .int v] : List Value).toArray below meth c s.heap [] 0 0 (MQ below (va_Qi (fun (r : Int32) (_u : Unit) => True) (fun u t => wb D A ((fun _ => [(h, .inr (7, [.ref sl, .int na, .ref zs, .ref ln, .ref ir, .ref tk, .int su, .int le, .ref tb, .int fu, .int ap, .int pp, .ref tr, .int 2, .ref fz, .int nm])), (sl, .inl (cI, 1653, .inl sf)), (tr, .inl (cI, 16, .inl (upd trf (1 : Int32).toNatClampNeg 20)))]) u) t) A) ([.ref h, .int v] : List Value).toArray s 0 0 A) (F0 m 0 ls [])
  refine lv_aload_n hx hb dX8_mark20_0 rfl (lv_at hl 0 rfl) ?_
  refine lv_bipush (v := 20) hx hb dX8_mark20_1 (by decide) ?_
  have k_1 := (t_X8_begins_20_1 l D cI cB cQ s.heap.size h sl zs ln ir tk tb tr fz na su le fu ap pp nm trf (by omega) (by omega) (by omega) (by omega))
  refine wc_v (WC := [(h, .inr (7, [.ref sl, .int na, .ref zs, .ref ln, .ref ir, .ref tk, .int su, .int le, .ref tb, .int fu, .int ap, .int pp, .ref tr, .int 1, .ref fz, .int nm])), (tr, .inl (cI, 16, .inl trf))]) (WR := [(sl, .inl (cI, 1653, .inl sf))]) (va_runV (As := [.int 20]) (rest := []) ⟨hx, hb, hml, hown, hts⟩ k_1 (cwV 1 hts gX8_mark20_X8_begins rfl rfl rfl (by decide +kernel) ⟨Nat.le_of_ble_eq_true rfl, Nat.le_of_ble_eq_true rfl⟩) (wp_V hP hK hD hN [0, 2] (by decide) rfl (ci := 7) rfl rfl) rfl rfl hl.1 rfl (lv_room (Nat.le_of_ble_eq_true rfl)) dX8_mark20_3 ⟨Nat.le_of_ble_eq_true rfl, Nat.le_of_ble_eq_true rfl⟩) hP hD hS hA [0, 2] [1] rfl rfl (by decide) (by decide) (fun u_1 H locs hw_1 hP hD hS => ?_)
  clear k_1
  have hP : va_P D kl [(sl, .inl (cI, 1653, .inl sf)), (h, .inr (7, [.ref sl, .int na, .ref zs, .ref ln, .ref ir, .ref tk, .int su, .int le, .ref tb, .int fu, .int ap, .int pp, .ref tr, .int 2, .ref fz, .int nm])), (tr, .inl (cI, 16, .inl (upd trf (1 : Int32).toNatClampNeg 20)))] H := hP
  have hD : va_D A [(sl, .inl (cI, 1653, .inl sf)), (h, .inr (7, [.ref sl, .int na, .ref zs, .ref ln, .ref ir, .ref tk, .int su, .int le, .ref tb, .int fu, .int ap, .int pp, .ref tr, .int 2, .ref fz, .int nm])), (tr, .inl (cI, 16, .inl (upd trf (1 : Int32).toNatClampNeg 20)))] := hD
  clear hw_1
  refine lv_iload_n hx hb dX8_mark20_6 rfl (lv_at hl 1 rfl) ?_
  exact wr_i (v := v) hx hb hr hlocks hS () (by trivial) (hP.sub [1, 0, 2] rfl) (hD.sub [1, 0, 2] (by decide) rfl) dX8_mark20_7
set_option maxHeartbeats 4000000 in
set_option maxRecDepth 100000 in
theorem t_X8_mark21_0_0 (l : Launch) (D : va_G) (cI cB cQ : ClassId) (sz : Nat) (h : Nat) (sl : Nat) (zs : Nat) (ln : Nat) (ir : Nat) (tk : Nat) (tb : Nat) (tr : Nat) (fz : Nat) (na : Int32) (su : Int32) (le : Int32) (fu : Int32) (ap : Int32) (pp : Int32) (nm : Int32) (v : Int32) (sf : Nat → Int32) (trf : Nat → Int32) (v0 : Int) (hsi : SI sf v0) (h_na : 0 ≤ na.toInt ∧ na.toInt ≤ 24) (h_le : 0 ≤ le.toInt ∧ le.toInt ≤ 120) (h_ap : 0 ≤ ap.toInt ∧ ap.toInt ≤ 120) (h_pp : 0 ≤ pp.toInt ∧ pp.toInt ≤ 120) (h_v : 0 ≤ v.toInt ∧ v.toInt ≤ 2) : mi l yX8_mark21 wsX8_mark21 ({ frames := 2, cells := 0, slots := 0, locals := 42 }) D cI cB cQ [.ref h, .int v] sz [(h, .inr (7, [.ref sl, .int na, .ref zs, .ref ln, .ref ir, .ref tk, .int su, .int le, .ref tb, .int fu, .int ap, .int pp, .ref tr, .int 0, .ref fz, .int nm])), (sl, .inl (cI, 1653, .inl sf)), (tr, .inl (cI, 16, .inl trf))] (fun (r : Int32) (_u : Unit) => True) (fun _ => [(h, .inr (7, [.ref sl, .int na, .ref zs, .ref ln, .ref ir, .ref tk, .int su, .int le, .ref tb, .int fu, .int ap, .int pp, .ref tr, .int 2, .ref fz, .int nm])), (sl, .inl (cI, 1653, .inl sf)), (tr, .inl (cI, 16, .inl (upd (upd trf (0 : Int32).toNatClampNeg 21) (1 : Int32).toNatClampNeg 20)))]) 0 0 := by
  refine wm_i (cc := cX8_mark21) (maxL := 3) (ret := (some .int)) (by decide) rfl (Nat.le_of_ble_eq_true rfl) ?_
  intro p e s m below meth c A ls hx hb hr hml hown hts hlocks hin hP hK hD hN hA hl hS
  have hown : s.vm.findClass RX8 = some m.cls := hown
  have hl : lv_has ls 3 [(0, .ref h), (1, .int v)] := hl
  change W p l e ({ frames := 2, cells := 0, slots := 0, locals := 42 }) s m ([.ref h, .int v] : List Value).toArray below meth c s.heap [] 0 0 (MQ below (va_Qi (fun (r : Int32) (_u : Unit) => True) (fun u t => wb D A ((fun _ => [(h, .inr (7, [.ref sl, .int na, .ref zs, .ref ln, .ref ir, .ref tk, .int su, .int le, .ref tb, .int fu, .int ap, .int pp, .ref tr, .int 2, .ref fz, .int nm])), (sl, .inl (cI, 1653, .inl sf)), (tr, .inl (cI, 16, .inl (upd (upd trf (0 : Int32).toNatClampNeg 21) (1 : Int32).toNatClampNeg 20)))]) u) t) A) ([.ref h, .int v] : List Value).toArray s 0 0 A) (F0 m 0 ls [])
  refine lv_aload_n hx hb dX8_mark21_0 rfl (lv_at hl 0 rfl) ?_
  refine lv_bipush (v := 21) hx hb dX8_mark21_1 (by decide) ?_
  have k_1 := (t_X8_begins_21_0 l D cI cB cQ s.heap.size h sl zs ln ir tk tb tr fz na su le fu ap pp nm trf (by omega) (by omega) (by omega) (by omega))
  refine wc_v (WC := [(h, .inr (7, [.ref sl, .int na, .ref zs, .ref ln, .ref ir, .ref tk, .int su, .int le, .ref tb, .int fu, .int ap, .int pp, .ref tr, .int 0, .ref fz, .int nm])), (tr, .inl (cI, 16, .inl trf))]) (WR := [(sl, .inl (cI, 1653, .inl sf))]) (va_runV (As := [.int 21]) (rest := []) ⟨hx, hb, hml, hown, hts⟩ k_1 (cwV 1 hts gX8_mark21_X8_begins rfl rfl rfl (by decide +kernel) ⟨Nat.le_of_ble_eq_true rfl, Nat.le_of_ble_eq_true rfl⟩) (wp_V hP hK hD hN [0, 2] (by decide) rfl (ci := 7) rfl rfl) rfl rfl hl.1 rfl (lv_room (Nat.le_of_ble_eq_true rfl)) dX8_mark21_3 ⟨Nat.le_of_ble_eq_true rfl, Nat.le_of_ble_eq_true rfl⟩) hP hD hS hA [0, 2] [1] rfl rfl (by decide) (by decide) (fun u_1 H locs hw_1 hP hD hS => ?_)
  clear k_1
  have hP : va_P D kl [(sl, .inl (cI, 1653, .inl sf)), (h, .inr (7, [.ref sl, .int na, .ref zs, .ref ln, .ref ir, .ref tk, .int su, .int le, .ref tb, .int fu, .int ap, .int pp, .ref tr, .int 1, .ref fz, .int nm])), (tr, .inl (cI, 16, .inl (upd trf (0 : Int32).toNatClampNeg 21)))] H := hP
  have hD : va_D A [(sl, .inl (cI, 1653, .inl sf)), (h, .inr (7, [.ref sl, .int na, .ref zs, .ref ln, .ref ir, .ref tk, .int su, .int le, .ref tb, .int fu, .int ap, .int pp, .ref tr, .int 1, .ref fz, .int nm])), (tr, .inl (cI, 16, .inl (upd trf (0 : Int32).toNatClampNeg 21)))] := hD
  clear hw_1
  refine lv_aload_n hx hb dX8_mark21_6 rfl (lv_at hl 0 rfl) ?_
  refine lv_iload_n hx hb dX8_mark21_7 rfl (lv_at hl 1 rfl) ?_
  have k_2 := (t_X8_mark20_0_1 l D cI cB cQ H.size h sl zs ln ir tk tb tr fz na su le fu ap pp nm v sf (upd trf (0 : Int32).toNatClampNeg 21) v0 hsi (by omega) (by omega) (by omega) (by omega) (by omega))
  refine wc_i (WC := [(h, .inr (7, [.ref sl, .int na, .ref zs, .ref ln, .ref ir, .ref tk, .int su, .int le, .ref tb, .int fu, .int ap, .int pp, .ref tr, .int 1, .ref fz, .int nm])), (sl, .inl (cI, 1653, .inl sf)), (tr, .inl (cI, 16, .inl (upd trf (0 : Int32).toNatClampNeg 21)))]) (WR := []) (va_runV (As := [.int v]) (rest := []) ⟨hx, hb, hml, hown, hts⟩ k_2 (cwV 1 hts gX8_mark21_X8_mark20 rfl rfl rfl (by decide +kernel) ⟨Nat.le_of_ble_eq_true rfl, Nat.le_of_ble_eq_true rfl⟩) (wp_V hP hK hD hN [1, 0, 2] (by decide) rfl (ci := 7) rfl rfl) rfl rfl hl.1 rfl (lv_room (Nat.le_of_ble_eq_true rfl)) dX8_mark21_8 ⟨Nat.le_of_ble_eq_true rfl, Nat.le_of_ble_eq_true rfl⟩) hP hD hS hA [1, 0, 2] [] rfl rfl (by decide) (by decide) (fun r_2 u_2 H locs hw_2 hP hD hS => ?_)
  clear k_2
  have hP : va_P D kl [(h, .inr (7, [.ref sl, .int na, .ref zs, .ref ln, .ref ir, .ref tk, .int su, .int le, .ref tb, .int fu, .int ap, .int pp, .ref tr, .int 2, .ref fz, .int nm])), (sl, .inl (cI, 1653, .inl sf)), (tr, .inl (cI, 16, .inl (upd (upd trf (0 : Int32).toNatClampNeg 21) (1 : Int32).toNatClampNeg 20)))] H := hP
  have hD : va_D A [(h, .inr (7, [.ref sl, .int na, .ref zs, .ref ln, .ref ir, .ref tk, .int su, .int le, .ref tb, .int fu, .int ap, .int pp, .ref tr, .int 2, .ref fz, .int nm])), (sl, .inl (cI, 1653, .inl sf)), (tr, .inl (cI, 16, .inl (upd (upd trf (0 : Int32).toNatClampNeg 21) (1 : Int32).toNatClampNeg 20)))] := hD
  clear hw_2
  refine lv_istore_n (lv' := [(2, .int r_2), (0, .ref h), (1, .int v)]) hx hb dX8_mark21_11 rfl hl (by decide) rfl (fun ls hl => ?_)
  refine lv_iload_n hx hb dX8_mark21_12 rfl (lv_at hl 0 rfl) ?_
  refine lv_aload_n hx hb dX8_mark21_13 rfl (lv_at hl 1 rfl) ?_
  refine va_get (D := D) (ci := 7) (v := .ref sl) (C := RX8) (T := TX8) (N := 16) hx hb hts (fun _ h => List.mem_cons_of_mem _ (List.mem_append_right _ h)) hown hK hP 0 rfl rfl 0 (by decide) (hts (.fieldLink RX8 7 "WinterWalkModel" "slot" "[I") (List.mem_of_getElem? (i := 1) rfl)) (fun _ h9 => h9) rfl dX8_mark21_14 ?_
  refine lv_bipush (v := 23) hx hb dX8_mark21_17 (by decide) ?_
  refine lv_aload_n hx hb dX8_mark21_19 rfl (lv_at hl 1 rfl) ?_
  refine va_get (D := D) (ci := 7) (v := .ref sl) (C := RX8) (T := TX8) (N := 16) hx hb hts (fun _ h => List.mem_cons_of_mem _ (List.mem_append_right _ h)) hown hK hP 0 rfl rfl 0 (by decide) (hts (.fieldLink RX8 7 "WinterWalkModel" "slot" "[I") (List.mem_of_getElem? (i := 1) rfl)) (fun _ h9 => h9) rfl dX8_mark21_20 ?_
  refine lv_bipush (v := 48) hx hb dX8_mark21_23 (by decide) ?_
  refine lv_iload_n hx hb dX8_mark21_25 rfl (lv_at hl 2 rfl) ?_
  refine lv_iadd hx hb dX8_mark21_26 ?_
  refine lv_topi (fun x_3 ex_3 => ?_)
  have e_3 : x_3.toInt = 48 + v.toInt := by rw [ex_3]; exact zi_add (by decide) (rfl) (by omega) (by omega)
  clear ex_3
  refine va_iald hx hb hK hP 1 0 rfl rfl (zi_in (by omega) (by omega)) dX8_mark21_27 ?_
  refine lv_topi (fun x_4 ex_4 => ?_)
  have f_4 : 0 ≤ x_4.toInt ∧ x_4.toInt ≤ 7 := by rw [ex_4]; exact si_a hsi (s := 0) (k := v.toInt) (by omega) (by omega) (by omega)
  clear ex_4
  refine lv_iadd hx hb dX8_mark21_28 ?_
  refine lv_topi (fun x_5 ex_5 => ?_)
  have e_5 : x_5.toInt = 23 + x_4.toInt := by rw [ex_5]; exact zi_add (by decide) (rfl) (by omega) (by omega)
  clear ex_5
  refine va_iald hx hb hK hP 1 0 rfl rfl (zi_in (by omega) (by omega)) dX8_mark21_29 ?_
  refine lv_topi (fun x_6 ex_6 => ?_)
  clear ex_6
  refine lv_iadd hx hb dX8_mark21_30 ?_
  refine lv_topi (fun x_7 ex_7 => ?_)
  clear ex_7
  exact wr_i (v := x_7) hx hb hr hlocks hS () (by trivial) (hP.sub [0, 1, 2] rfl) (hD.sub [0, 1, 2] (by decide) rfl) dX8_mark21_31
set_option maxHeartbeats 4000000 in
set_option maxRecDepth 100000 in
theorem t_X8_markOld_1_0 (l : Launch) (D : va_G) (cI cB cQ : ClassId) (sz : Nat) (h : Nat) (sl : Nat) (zs : Nat) (ln : Nat) (ir : Nat) (tk : Nat) (tb : Nat) (tr : Nat) (fz : Nat) (na : Int32) (su : Int32) (le : Int32) (fu : Int32) (ap : Int32) (pp : Int32) (nm : Int32) (v : Int32) (sf : Nat → Int32) (trf : Nat → Int32) (v0 : Int) (hsi : SI sf v0) (h_na : 0 ≤ na.toInt ∧ na.toInt ≤ 24) (h_le : 0 ≤ le.toInt ∧ le.toInt ≤ 120) (h_ap : 0 ≤ ap.toInt ∧ ap.toInt ≤ 120) (h_pp : 0 ≤ pp.toInt ∧ pp.toInt ≤ 120) (h_v : 0 ≤ v.toInt ∧ v.toInt ≤ 2) (h_kd : sf (20 + v.toNatClampNeg) = 1) : mi l yX8_markOld wsX8_markOld ({ frames := 3, cells := 0, slots := 0, locals := 64 }) D cI cB cQ [.ref h, .int v] sz [(h, .inr (7, [.ref sl, .int na, .ref zs, .ref ln, .ref ir, .ref tk, .int su, .int le, .ref tb, .int fu, .int ap, .int pp, .ref tr, .int 0, .ref fz, .int nm])), (sl, .inl (cI, 1653, .inl sf)), (tr, .inl (cI, 16, .inl trf))] (fun (r : Int32) (_u : Unit) => True) (fun _ => [(h, .inr (7, [.ref sl, .int na, .ref zs, .ref ln, .ref ir, .ref tk, .int su, .int le, .ref tb, .int fu, .int ap, .int pp, .ref tr, .int 2, .ref fz, .int nm])), (sl, .inl (cI, 1653, .inl sf)), (tr, .inl (cI, 16, .inl (upd (upd trf (0 : Int32).toNatClampNeg 21) (1 : Int32).toNatClampNeg 20)))]) 0 0 := by
  refine wm_i (cc := cX8_markOld) (maxL := 4) (ret := (some .int)) (by decide) rfl (Nat.le_of_ble_eq_true rfl) ?_
  intro p e s m below meth c A ls hx hb hr hml hown hts hlocks hin hP hK hD hN hA hl hS
  have hown : s.vm.findClass RX8 = some m.cls := hown
  have hl : lv_has ls 4 [(0, .ref h), (1, .int v)] := hl
  change W p l e ({ frames := 3, cells := 0, slots := 0, locals := 64 }) s m ([.ref h, .int v] : List Value).toArray below meth c s.heap [] 0 0 (MQ below (va_Qi (fun (r : Int32) (_u : Unit) => True) (fun u t => wb D A ((fun _ => [(h, .inr (7, [.ref sl, .int na, .ref zs, .ref ln, .ref ir, .ref tk, .int su, .int le, .ref tb, .int fu, .int ap, .int pp, .ref tr, .int 2, .ref fz, .int nm])), (sl, .inl (cI, 1653, .inl sf)), (tr, .inl (cI, 16, .inl (upd (upd trf (0 : Int32).toNatClampNeg 21) (1 : Int32).toNatClampNeg 20)))]) u) t) A) ([.ref h, .int v] : List Value).toArray s 0 0 A) (F0 m 0 ls [])
  refine lv_aload_n hx hb dX8_markOld_0 rfl (lv_at hl 0 rfl) ?_
  refine va_get (D := D) (ci := 7) (v := .ref sl) (C := RX8) (T := TX8) (N := 16) hx hb hts (fun _ h => List.mem_cons_of_mem _ (List.mem_append_right _ h)) hown hK hP 0 rfl rfl 0 (by decide) (hts (.fieldLink RX8 7 "WinterWalkModel" "slot" "[I") (List.mem_of_getElem? (i := 1) rfl)) (fun _ h9 => h9) rfl dX8_markOld_1 ?_
  refine lv_bipush (v := 20) hx hb dX8_markOld_4 (by decide) ?_
  refine lv_iload_n hx hb dX8_markOld_6 rfl (lv_at hl 1 rfl) ?_
  refine lv_iadd hx hb dX8_markOld_7 ?_
  refine lv_topi (fun x_1 ex_1 => ?_)
  have e_1 : x_1.toInt = 20 + v.toInt := by rw [ex_1]; exact zi_add (by decide) (rfl) (by omega) (by omega)
  clear ex_1
  refine va_iald hx hb hK hP 1 0 rfl rfl (zi_in (by omega) (by omega)) dX8_markOld_8 ?_
  refine lv_topi (fun x_2 ex_2 => ?_)
  obtain rfl : x_2 = 1 := ex_2.trans ((congrArg sf (show (x_1 : Int32).toNatClampNeg = 20 + v.toNatClampNeg from by have h9 := zi_cn (x := x_1) (by omega); have h8 := zi_cn (x := v) (by omega); omega)).trans h_kd)
  refine lv_istore_n (lv' := [(2, .int 1), (0, .ref h), (1, .int v)]) hx hb dX8_markOld_9 rfl hl (by decide) rfl (fun ls hl => ?_)
  refine lv_iload_n hx hb dX8_markOld_10 rfl (lv_at hl 0 rfl) ?_
  refine lv_iconst (v := 1) hx hb dX8_markOld_11 (by decide) ?_
  refine lv_icmp_ne (tgt := 21) hx hb dX8_markOld_12 (by decide) (fun c9 => absurd (by decide) c9) (fun _ => ?_)
  refine lv_aload_n hx hb dX8_markOld_15 rfl (lv_at hl 1 rfl) ?_
  refine lv_iload_n hx hb dX8_markOld_16 rfl (lv_at hl 2 rfl) ?_
  have k_3 := (t_X8_mark21_0_0 l D cI cB cQ s.heap.size h sl zs ln ir tk tb tr fz na su le fu ap pp nm v sf trf v0 hsi (by omega) (by omega) (by omega) (by omega) (by omega))
  refine wc_i (WC := [(h, .inr (7, [.ref sl, .int na, .ref zs, .ref ln, .ref ir, .ref tk, .int su, .int le, .ref tb, .int fu, .int ap, .int pp, .ref tr, .int 0, .ref fz, .int nm])), (sl, .inl (cI, 1653, .inl sf)), (tr, .inl (cI, 16, .inl trf))]) (WR := []) (va_runV (As := [.int v]) (rest := []) ⟨hx, hb, hml, hown, hts⟩ k_3 (cwV 1 hts gX8_markOld_X8_mark21 rfl rfl rfl (by decide +kernel) ⟨Nat.le_of_ble_eq_true rfl, Nat.le_of_ble_eq_true rfl⟩) (wp_V hP hK hD hN [0, 1, 2] (by decide) rfl (ci := 7) rfl rfl) rfl rfl hl.1 rfl (lv_room (Nat.le_of_ble_eq_true rfl)) dX8_markOld_17 ⟨Nat.le_of_ble_eq_true rfl, Nat.le_of_ble_eq_true rfl⟩) hP hD hS hA [0, 1, 2] [] rfl rfl (by decide) (by decide) (fun r_3 u_3 H locs hw_3 hP hD hS => ?_)
  clear k_3
  have hP : va_P D kl [(h, .inr (7, [.ref sl, .int na, .ref zs, .ref ln, .ref ir, .ref tk, .int su, .int le, .ref tb, .int fu, .int ap, .int pp, .ref tr, .int 2, .ref fz, .int nm])), (sl, .inl (cI, 1653, .inl sf)), (tr, .inl (cI, 16, .inl (upd (upd trf (0 : Int32).toNatClampNeg 21) (1 : Int32).toNatClampNeg 20)))] H := hP
  have hD : va_D A [(h, .inr (7, [.ref sl, .int na, .ref zs, .ref ln, .ref ir, .ref tk, .int su, .int le, .ref tb, .int fu, .int ap, .int pp, .ref tr, .int 2, .ref fz, .int nm])), (sl, .inl (cI, 1653, .inl sf)), (tr, .inl (cI, 16, .inl (upd (upd trf (0 : Int32).toNatClampNeg 21) (1 : Int32).toNatClampNeg 20)))] := hD
  clear hw_3
  exact wr_i (v := r_3) hx hb hr hlocks hS () (by trivial) (hP.sub [0, 1, 2] rfl) (hD.sub [0, 1, 2] (by decide) rfl) dX8_markOld_20
set_option maxHeartbeats 4000000 in
set_option maxRecDepth 100000 in
theorem t_X8_markOf_1_0 (l : Launch) (D : va_G) (cI cB cQ : ClassId) (sz : Nat) (h : Nat) (sl : Nat) (zs : Nat) (ln : Nat) (ir : Nat) (tk : Nat) (tb : Nat) (tr : Nat) (fz : Nat) (na : Int32) (su : Int32) (le : Int32) (fu : Int32) (ap : Int32) (pp : Int32) (nm : Int32) (v : Int32) (sf : Nat → Int32) (trf : Nat → Int32) (v0 : Int) (hsi : SI sf v0) (h_na : 0 ≤ na.toInt ∧ na.toInt ≤ 24) (h_le : 0 ≤ le.toInt ∧ le.toInt ≤ 120) (h_ap : 0 ≤ ap.toInt ∧ ap.toInt ≤ 120) (h_pp : 0 ≤ pp.toInt ∧ pp.toInt ≤ 120) (h_v : 0 ≤ v.toInt ∧ v.toInt ≤ 2) (h_kd : sf (20 + v.toNatClampNeg) = 1) : mi l yX8_markOf wsX8_markOf ({ frames := 4, cells := 0, slots := 0, locals := 87 }) D cI cB cQ [.ref h, .int v] sz [(h, .inr (7, [.ref sl, .int na, .ref zs, .ref ln, .ref ir, .ref tk, .int su, .int le, .ref tb, .int fu, .int ap, .int pp, .ref tr, .int 0, .ref fz, .int nm])), (sl, .inl (cI, 1653, .inl sf)), (tr, .inl (cI, 16, .inl trf))] (fun (r : Int32) (_u : Unit) => True) (fun _ => [(h, .inr (7, [.ref sl, .int na, .ref zs, .ref ln, .ref ir, .ref tk, .int su, .int le, .ref tb, .int fu, .int ap, .int pp, .ref tr, .int 2, .ref fz, .int nm])), (sl, .inl (cI, 1653, .inl sf)), (tr, .inl (cI, 16, .inl (upd (upd trf (0 : Int32).toNatClampNeg 21) (1 : Int32).toNatClampNeg 20)))]) 0 0 := by
  refine wm_i (cc := cX8_markOf) (maxL := 3) (ret := (some .int)) (by decide) rfl (Nat.le_of_ble_eq_true rfl) ?_
  intro p e s m below meth c A ls hx hb hr hml hown hts hlocks hin hP hK hD hN hA hl hS
  have hown : s.vm.findClass RX8 = some m.cls := hown
  have hl : lv_has ls 3 [(0, .ref h), (1, .int v)] := hl
  change W p l e ({ frames := 4, cells := 0, slots := 0, locals := 87 }) s m ([.ref h, .int v] : List Value).toArray below meth c s.heap [] 0 0 (MQ below (va_Qi (fun (r : Int32) (_u : Unit) => True) (fun u t => wb D A ((fun _ => [(h, .inr (7, [.ref sl, .int na, .ref zs, .ref ln, .ref ir, .ref tk, .int su, .int le, .ref tb, .int fu, .int ap, .int pp, .ref tr, .int 2, .ref fz, .int nm])), (sl, .inl (cI, 1653, .inl sf)), (tr, .inl (cI, 16, .inl (upd (upd trf (0 : Int32).toNatClampNeg 21) (1 : Int32).toNatClampNeg 20)))]) u) t) A) ([.ref h, .int v] : List Value).toArray s 0 0 A) (F0 m 0 ls [])
  refine lv_aload_n hx hb dX8_markOf_0 rfl (lv_at hl 0 rfl) ?_
  refine va_get (D := D) (ci := 7) (v := .ref sl) (C := RX8) (T := TX8) (N := 16) hx hb hts (fun _ h => List.mem_cons_of_mem _ (List.mem_append_right _ h)) hown hK hP 0 rfl rfl 0 (by decide) (hts (.fieldLink RX8 7 "WinterWalkModel" "slot" "[I") (List.mem_of_getElem? (i := 1) rfl)) (fun _ h9 => h9) rfl dX8_markOf_1 ?_
  refine lv_bipush (v := 20) hx hb dX8_markOf_4 (by decide) ?_
  refine lv_iload_n hx hb dX8_markOf_6 rfl (lv_at hl 1 rfl) ?_
  refine lv_iadd hx hb dX8_markOf_7 ?_
  refine lv_topi (fun x_1 ex_1 => ?_)
  have e_1 : x_1.toInt = 20 + v.toInt := by rw [ex_1]; exact zi_add (by decide) (rfl) (by omega) (by omega)
  clear ex_1
  refine va_iald hx hb hK hP 1 0 rfl rfl (zi_in (by omega) (by omega)) dX8_markOf_8 ?_
  refine lv_topi (fun x_2 ex_2 => ?_)
  obtain rfl : x_2 = 1 := ex_2.trans ((congrArg sf (show (x_1 : Int32).toNatClampNeg = 20 + v.toNatClampNeg from by have h9 := zi_cn (x := x_1) (by omega); have h8 := zi_cn (x := v) (by omega); omega)).trans h_kd)
  refine lv_iconst (v := 4) hx hb dX8_markOf_9 (by decide) ?_
  refine lv_icmp_ge (tgt := 19) hx hb dX8_markOf_10 (by decide) (fun c9 => absurd c9 (by decide)) (fun _ => ?_)
  refine lv_aload_n hx hb dX8_markOf_13 rfl (lv_at hl 0 rfl) ?_
  refine lv_iload_n hx hb dX8_markOf_14 rfl (lv_at hl 1 rfl) ?_
  have k_3 := (t_X8_markOld_1_0 l D cI cB cQ s.heap.size h sl zs ln ir tk tb tr fz na su le fu ap pp nm v sf trf v0 hsi (by omega) (by omega) (by omega) (by omega) (by omega) (h_kd))
  refine wc_i (WC := [(h, .inr (7, [.ref sl, .int na, .ref zs, .ref ln, .ref ir, .ref tk, .int su, .int le, .ref tb, .int fu, .int ap, .int pp, .ref tr, .int 0, .ref fz, .int nm])), (sl, .inl (cI, 1653, .inl sf)), (tr, .inl (cI, 16, .inl trf))]) (WR := []) (va_runV (As := [.int v]) (rest := []) ⟨hx, hb, hml, hown, hts⟩ k_3 (cwV 1 hts gX8_markOf_X8_markOld rfl rfl rfl (by decide +kernel) ⟨Nat.le_of_ble_eq_true rfl, Nat.le_of_ble_eq_true rfl⟩) (wp_V hP hK hD hN [0, 1, 2] (by decide) rfl (ci := 7) rfl rfl) rfl rfl hl.1 rfl (lv_room (Nat.le_of_ble_eq_true rfl)) dX8_markOf_15 ⟨Nat.le_of_ble_eq_true rfl, Nat.le_of_ble_eq_true rfl⟩) hP hD hS hA [0, 1, 2] [] rfl rfl (by decide) (by decide) (fun r_3 u_3 H locs hw_3 hP hD hS => ?_)
  clear k_3
  have hP : va_P D kl [(h, .inr (7, [.ref sl, .int na, .ref zs, .ref ln, .ref ir, .ref tk, .int su, .int le, .ref tb, .int fu, .int ap, .int pp, .ref tr, .int 2, .ref fz, .int nm])), (sl, .inl (cI, 1653, .inl sf)), (tr, .inl (cI, 16, .inl (upd (upd trf (0 : Int32).toNatClampNeg 21) (1 : Int32).toNatClampNeg 20)))] H := hP
  have hD : va_D A [(h, .inr (7, [.ref sl, .int na, .ref zs, .ref ln, .ref ir, .ref tk, .int su, .int le, .ref tb, .int fu, .int ap, .int pp, .ref tr, .int 2, .ref fz, .int nm])), (sl, .inl (cI, 1653, .inl sf)), (tr, .inl (cI, 16, .inl (upd (upd trf (0 : Int32).toNatClampNeg 21) (1 : Int32).toNatClampNeg 20)))] := hD
  clear hw_3
  exact wr_i (v := r_3) hx hb hr hlocks hS () (by trivial) (hP.sub [0, 1, 2] rfl) (hD.sub [0, 1, 2] (by decide) rfl) dX8_markOf_18
set_option maxHeartbeats 4000000 in
set_option maxRecDepth 100000 in
theorem t_X8_begins_12_0 (l : Launch) (D : va_G) (cI cB cQ : ClassId) (sz : Nat) (h : Nat) (sl : Nat) (zs : Nat) (ln : Nat) (ir : Nat) (tk : Nat) (tb : Nat) (tr : Nat) (fz : Nat) (na : Int32) (su : Int32) (le : Int32) (fu : Int32) (ap : Int32) (pp : Int32) (nm : Int32) (trf : Nat → Int32) (h_na : 0 ≤ na.toInt ∧ na.toInt ≤ 24) (h_le : 0 ≤ le.toInt ∧ le.toInt ≤ 120) (h_ap : 0 ≤ ap.toInt ∧ ap.toInt ≤ 120) (h_pp : 0 ≤ pp.toInt ∧ pp.toInt ≤ 120) : mv l yX8_begins wsX8_begins ({ frames := 0, cells := 0, slots := 0, locals := 0 }) D cI cB cQ [.ref h, .int 12] sz [(h, .inr (7, [.ref sl, .int na, .ref zs, .ref ln, .ref ir, .ref tk, .int su, .int le, .ref tb, .int fu, .int ap, .int pp, .ref tr, .int 0, .ref fz, .int nm])), (tr, .inl (cI, 16, .inl trf))] (fun (_u : Unit) => True) (fun _ => [(h, .inr (7, [.ref sl, .int na, .ref zs, .ref ln, .ref ir, .ref tk, .int su, .int le, .ref tb, .int fu, .int ap, .int pp, .ref tr, .int 1, .ref fz, .int nm])), (tr, .inl (cI, 16, .inl (upd trf (0 : Int32).toNatClampNeg 12)))]) 0 0 := by
  refine wm_v (cc := cX8_begins) (maxL := 2) (ret := none) (by decide) rfl (Nat.le_of_ble_eq_true rfl) ?_
  intro p e s m below meth c A ls hx hb hr hml hown hts hlocks hin hP hK hD hN hA hl hS
  have hown : s.vm.findClass RX8 = some m.cls := hown
  have hl : lv_has ls 2 [(0, .ref h), (1, .int 12)] := hl
  change W p l e ({ frames := 0, cells := 0, slots := 0, locals := 0 }) s m ([.ref h, .int 12] : List Value).toArray below meth c s.heap [] 0 0 (MQ below (va_Qv (fun (_u : Unit) => True) (fun u t => wb D A ((fun _ => [(h, .inr (7, [.ref sl, .int na, .ref zs, .ref ln, .ref ir, .ref tk, .int su, .int le, .ref tb, .int fu, .int ap, .int pp, .ref tr, .int 1, .ref fz, .int nm])), (tr, .inl (cI, 16, .inl (upd trf (0 : Int32).toNatClampNeg 12)))]) u) t) A) ([.ref h, .int 12] : List Value).toArray s 0 0 A) (F0 m 0 ls [])
  refine lv_aload_n hx hb dX8_begins_0 rfl (lv_at hl 0 rfl) ?_
  refine va_get (D := D) (ci := 7) (v := .int 0) (C := RX8) (T := TX8) (N := 16) hx hb hts (fun _ h => List.mem_cons_of_mem _ (List.mem_append_right _ h)) hown hK hP 0 rfl rfl 13 (by decide) (hts (.fieldLink RX8 208 "WinterWalkModel" "traced" "I") (List.mem_of_getElem? (i := 1) rfl)) (fun _ h9 => h9) rfl dX8_begins_1 ?_
  refine lv_bipush (v := 16) hx hb dX8_begins_4 (by decide) ?_
  refine lv_icmp_ge (tgt := 29) hx hb dX8_begins_6 (by decide) (fun c9 => absurd c9 (by decide)) (fun _ => ?_)
  refine lv_aload_n hx hb dX8_begins_9 rfl (lv_at hl 0 rfl) ?_
  refine va_get (D := D) (ci := 7) (v := .ref tr) (C := RX8) (T := TX8) (N := 16) hx hb hts (fun _ h => List.mem_cons_of_mem _ (List.mem_append_right _ h)) hown hK hP 0 rfl rfl 12 (by decide) (hts (.fieldLink RX8 29 "WinterWalkModel" "trace" "[I") (List.mem_of_getElem? (i := 2) rfl)) (fun _ h9 => h9) rfl dX8_begins_10 ?_
  refine lv_aload_n hx hb dX8_begins_13 rfl (lv_at hl 0 rfl) ?_
  refine va_get (D := D) (ci := 7) (v := .int 0) (C := RX8) (T := TX8) (N := 16) hx hb hts (fun _ h => List.mem_cons_of_mem _ (List.mem_append_right _ h)) hown hK hP 0 rfl rfl 13 (by decide) (hts (.fieldLink RX8 208 "WinterWalkModel" "traced" "I") (List.mem_of_getElem? (i := 1) rfl)) (fun _ h9 => h9) rfl dX8_begins_14 ?_
  refine lv_iload_n hx hb dX8_begins_17 rfl (lv_at hl 1 rfl) ?_
  refine va_iast hx hb hK hP hD hS 1 0 rfl rfl (zi_in (by decide) (by decide)) dX8_begins_18 (fun H locs hP hD hS => ?_)
  have hP : va_P D kl [(h, .inr (7, [.ref sl, .int na, .ref zs, .ref ln, .ref ir, .ref tk, .int su, .int le, .ref tb, .int fu, .int ap, .int pp, .ref tr, .int 0, .ref fz, .int nm])), (tr, .inl (cI, 16, .inl (upd trf (0 : Int32).toNatClampNeg 12)))] H := hP
  have hD : va_D A [(h, .inr (7, [.ref sl, .int na, .ref zs, .ref ln, .ref ir, .ref tk, .int su, .int le, .ref tb, .int fu, .int ap, .int pp, .ref tr, .int 0, .ref fz, .int nm])), (tr, .inl (cI, 16, .inl (upd trf (0 : Int32).toNatClampNeg 12)))] := hD
  refine lv_aload_n hx hb dX8_begins_19 rfl (lv_at hl 0 rfl) ?_
  refine lv_dup hx hb dX8_begins_20 rfl ?_
  refine va_get (D := D) (ci := 7) (v := .int 0) (C := RX8) (T := TX8) (N := 16) hx hb hts (fun _ h => List.mem_cons_of_mem _ (List.mem_append_right _ h)) hown hK hP 0 rfl rfl 13 (by decide) (hts (.fieldLink RX8 208 "WinterWalkModel" "traced" "I") (List.mem_of_getElem? (i := 1) rfl)) (fun _ h9 => h9) rfl dX8_begins_21 ?_
  refine lv_iconst (v := 1) hx hb dX8_begins_24 (by decide) ?_
  refine lv_iadd hx hb dX8_begins_25 ?_
  refine lv_topi (fun x_1 ex_1 => ?_)
  obtain rfl : x_1 = 1 := ex_1.trans (by decide)
  refine va_put (D := D) (ci := 7) (v := .int 1) (ty := .int) (C := RX8) (T := TX8) (N := 16) hx hb hts (fun _ h => List.mem_cons_of_mem _ (List.mem_append_right _ h)) tyX8 tyX8_ok nmX8 hown hK hP hD hS 0 rfl rfl 13 (by decide) (hts (.fieldLink RX8 208 "WinterWalkModel" "traced" "I") (List.mem_of_getElem? (i := 1) rfl)) (fun _ h9 => h9) rfl (by decide +kernel) rfl rfl (Nat.le_of_ble_eq_true rfl) dX8_begins_26 (fun H locs hP hD hS => ?_)
  have hP : va_P D kl [(h, .inr (7, [.ref sl, .int na, .ref zs, .ref ln, .ref ir, .ref tk, .int su, .int le, .ref tb, .int fu, .int ap, .int pp, .ref tr, .int 1, .ref fz, .int nm])), (tr, .inl (cI, 16, .inl (upd trf (0 : Int32).toNatClampNeg 12)))] H := hP
  have hD : va_D A [(h, .inr (7, [.ref sl, .int na, .ref zs, .ref ln, .ref ir, .ref tk, .int su, .int le, .ref tb, .int fu, .int ap, .int pp, .ref tr, .int 1, .ref fz, .int nm])), (tr, .inl (cI, 16, .inl (upd trf (0 : Int32).toNatClampNeg 12)))] := hD
  exact wr_v hx hb hr hlocks hS () (by trivial) (hP.sub [0, 1] rfl) (hD.sub [0, 1] (by decide) rfl) dX8_begins_29
set_option maxHeartbeats 4000000 in
set_option maxRecDepth 100000 in
theorem t_X8_begins_11_1 (l : Launch) (D : va_G) (cI cB cQ : ClassId) (sz : Nat) (h : Nat) (sl : Nat) (zs : Nat) (ln : Nat) (ir : Nat) (tk : Nat) (tb : Nat) (tr : Nat) (fz : Nat) (na : Int32) (su : Int32) (le : Int32) (fu : Int32) (ap : Int32) (pp : Int32) (nm : Int32) (trf : Nat → Int32) (h_na : 0 ≤ na.toInt ∧ na.toInt ≤ 24) (h_le : 0 ≤ le.toInt ∧ le.toInt ≤ 120) (h_ap : 0 ≤ ap.toInt ∧ ap.toInt ≤ 120) (h_pp : 0 ≤ pp.toInt ∧ pp.toInt ≤ 120) : mv l yX8_begins wsX8_begins ({ frames := 0, cells := 0, slots := 0, locals := 0 }) D cI cB cQ [.ref h, .int 11] sz [(h, .inr (7, [.ref sl, .int na, .ref zs, .ref ln, .ref ir, .ref tk, .int su, .int le, .ref tb, .int fu, .int ap, .int pp, .ref tr, .int 1, .ref fz, .int nm])), (tr, .inl (cI, 16, .inl trf))] (fun (_u : Unit) => True) (fun _ => [(h, .inr (7, [.ref sl, .int na, .ref zs, .ref ln, .ref ir, .ref tk, .int su, .int le, .ref tb, .int fu, .int ap, .int pp, .ref tr, .int 2, .ref fz, .int nm])), (tr, .inl (cI, 16, .inl (upd trf (1 : Int32).toNatClampNeg 11)))]) 0 0 := by
  refine wm_v (cc := cX8_begins) (maxL := 2) (ret := none) (by decide) rfl (Nat.le_of_ble_eq_true rfl) ?_
  intro p e s m below meth c A ls hx hb hr hml hown hts hlocks hin hP hK hD hN hA hl hS
  have hown : s.vm.findClass RX8 = some m.cls := hown
  have hl : lv_has ls 2 [(0, .ref h), (1, .int 11)] := hl
  change W p l e ({ frames := 0, cells := 0, slots := 0, locals := 0 }) s m ([.ref h, .int 11] : List Value).toArray below meth c s.heap [] 0 0 (MQ below (va_Qv (fun (_u : Unit) => True) (fun u t => wb D A ((fun _ => [(h, .inr (7, [.ref sl, .int na, .ref zs, .ref ln, .ref ir, .ref tk, .int su, .int le, .ref tb, .int fu, .int ap, .int pp, .ref tr, .int 2, .ref fz, .int nm])), (tr, .inl (cI, 16, .inl (upd trf (1 : Int32).toNatClampNeg 11)))]) u) t) A) ([.ref h, .int 11] : List Value).toArray s 0 0 A) (F0 m 0 ls [])
  refine lv_aload_n hx hb dX8_begins_0 rfl (lv_at hl 0 rfl) ?_
  refine va_get (D := D) (ci := 7) (v := .int 1) (C := RX8) (T := TX8) (N := 16) hx hb hts (fun _ h => List.mem_cons_of_mem _ (List.mem_append_right _ h)) hown hK hP 0 rfl rfl 13 (by decide) (hts (.fieldLink RX8 208 "WinterWalkModel" "traced" "I") (List.mem_of_getElem? (i := 1) rfl)) (fun _ h9 => h9) rfl dX8_begins_1 ?_
  refine lv_bipush (v := 16) hx hb dX8_begins_4 (by decide) ?_
  refine lv_icmp_ge (tgt := 29) hx hb dX8_begins_6 (by decide) (fun c9 => absurd c9 (by decide)) (fun _ => ?_)
  refine lv_aload_n hx hb dX8_begins_9 rfl (lv_at hl 0 rfl) ?_
  refine va_get (D := D) (ci := 7) (v := .ref tr) (C := RX8) (T := TX8) (N := 16) hx hb hts (fun _ h => List.mem_cons_of_mem _ (List.mem_append_right _ h)) hown hK hP 0 rfl rfl 12 (by decide) (hts (.fieldLink RX8 29 "WinterWalkModel" "trace" "[I") (List.mem_of_getElem? (i := 2) rfl)) (fun _ h9 => h9) rfl dX8_begins_10 ?_
  refine lv_aload_n hx hb dX8_begins_13 rfl (lv_at hl 0 rfl) ?_
  refine va_get (D := D) (ci := 7) (v := .int 1) (C := RX8) (T := TX8) (N := 16) hx hb hts (fun _ h => List.mem_cons_of_mem _ (List.mem_append_right _ h)) hown hK hP 0 rfl rfl 13 (by decide) (hts (.fieldLink RX8 208 "WinterWalkModel" "traced" "I") (List.mem_of_getElem? (i := 1) rfl)) (fun _ h9 => h9) rfl dX8_begins_14 ?_
  refine lv_iload_n hx hb dX8_begins_17 rfl (lv_at hl 1 rfl) ?_
  refine va_iast hx hb hK hP hD hS 1 0 rfl rfl (zi_in (by decide) (by decide)) dX8_begins_18 (fun H locs hP hD hS => ?_)
  have hP : va_P D kl [(h, .inr (7, [.ref sl, .int na, .ref zs, .ref ln, .ref ir, .ref tk, .int su, .int le, .ref tb, .int fu, .int ap, .int pp, .ref tr, .int 1, .ref fz, .int nm])), (tr, .inl (cI, 16, .inl (upd trf (1 : Int32).toNatClampNeg 11)))] H := hP
  have hD : va_D A [(h, .inr (7, [.ref sl, .int na, .ref zs, .ref ln, .ref ir, .ref tk, .int su, .int le, .ref tb, .int fu, .int ap, .int pp, .ref tr, .int 1, .ref fz, .int nm])), (tr, .inl (cI, 16, .inl (upd trf (1 : Int32).toNatClampNeg 11)))] := hD
  refine lv_aload_n hx hb dX8_begins_19 rfl (lv_at hl 0 rfl) ?_
  refine lv_dup hx hb dX8_begins_20 rfl ?_
  refine va_get (D := D) (ci := 7) (v := .int 1) (C := RX8) (T := TX8) (N := 16) hx hb hts (fun _ h => List.mem_cons_of_mem _ (List.mem_append_right _ h)) hown hK hP 0 rfl rfl 13 (by decide) (hts (.fieldLink RX8 208 "WinterWalkModel" "traced" "I") (List.mem_of_getElem? (i := 1) rfl)) (fun _ h9 => h9) rfl dX8_begins_21 ?_
  refine lv_iconst (v := 1) hx hb dX8_begins_24 (by decide) ?_
  refine lv_iadd hx hb dX8_begins_25 ?_
  refine lv_topi (fun x_1 ex_1 => ?_)
  obtain rfl : x_1 = 2 := ex_1.trans (by decide)
  refine va_put (D := D) (ci := 7) (v := .int 2) (ty := .int) (C := RX8) (T := TX8) (N := 16) hx hb hts (fun _ h => List.mem_cons_of_mem _ (List.mem_append_right _ h)) tyX8 tyX8_ok nmX8 hown hK hP hD hS 0 rfl rfl 13 (by decide) (hts (.fieldLink RX8 208 "WinterWalkModel" "traced" "I") (List.mem_of_getElem? (i := 1) rfl)) (fun _ h9 => h9) rfl (by decide +kernel) rfl rfl (Nat.le_of_ble_eq_true rfl) dX8_begins_26 (fun H locs hP hD hS => ?_)
  have hP : va_P D kl [(h, .inr (7, [.ref sl, .int na, .ref zs, .ref ln, .ref ir, .ref tk, .int su, .int le, .ref tb, .int fu, .int ap, .int pp, .ref tr, .int 2, .ref fz, .int nm])), (tr, .inl (cI, 16, .inl (upd trf (1 : Int32).toNatClampNeg 11)))] H := hP
  have hD : va_D A [(h, .inr (7, [.ref sl, .int na, .ref zs, .ref ln, .ref ir, .ref tk, .int su, .int le, .ref tb, .int fu, .int ap, .int pp, .ref tr, .int 2, .ref fz, .int nm])), (tr, .inl (cI, 16, .inl (upd trf (1 : Int32).toNatClampNeg 11)))] := hD
  exact wr_v hx hb hr hlocks hS () (by trivial) (hP.sub [0, 1] rfl) (hD.sub [0, 1] (by decide) rfl) dX8_begins_29
set_option maxHeartbeats 4000000 in
set_option maxRecDepth 100000 in
theorem t_X8_begins_10_2 (l : Launch) (D : va_G) (cI cB cQ : ClassId) (sz : Nat) (h : Nat) (sl : Nat) (zs : Nat) (ln : Nat) (ir : Nat) (tk : Nat) (tb : Nat) (tr : Nat) (fz : Nat) (na : Int32) (su : Int32) (le : Int32) (fu : Int32) (ap : Int32) (pp : Int32) (nm : Int32) (trf : Nat → Int32) (h_na : 0 ≤ na.toInt ∧ na.toInt ≤ 24) (h_le : 0 ≤ le.toInt ∧ le.toInt ≤ 120) (h_ap : 0 ≤ ap.toInt ∧ ap.toInt ≤ 120) (h_pp : 0 ≤ pp.toInt ∧ pp.toInt ≤ 120) : mv l yX8_begins wsX8_begins ({ frames := 0, cells := 0, slots := 0, locals := 0 }) D cI cB cQ [.ref h, .int 10] sz [(h, .inr (7, [.ref sl, .int na, .ref zs, .ref ln, .ref ir, .ref tk, .int su, .int le, .ref tb, .int fu, .int ap, .int pp, .ref tr, .int 2, .ref fz, .int nm])), (tr, .inl (cI, 16, .inl trf))] (fun (_u : Unit) => True) (fun _ => [(h, .inr (7, [.ref sl, .int na, .ref zs, .ref ln, .ref ir, .ref tk, .int su, .int le, .ref tb, .int fu, .int ap, .int pp, .ref tr, .int 3, .ref fz, .int nm])), (tr, .inl (cI, 16, .inl (upd trf (2 : Int32).toNatClampNeg 10)))]) 0 0 := by
  refine wm_v (cc := cX8_begins) (maxL := 2) (ret := none) (by decide) rfl (Nat.le_of_ble_eq_true rfl) ?_
  intro p e s m below meth c A ls hx hb hr hml hown hts hlocks hin hP hK hD hN hA hl hS
  have hown : s.vm.findClass RX8 = some m.cls := hown
  have hl : lv_has ls 2 [(0, .ref h), (1, .int 10)] := hl
  change W p l e ({ frames := 0, cells := 0, slots := 0, locals := 0 }) s m ([.ref h, .int 10] : List Value).toArray below meth c s.heap [] 0 0 (MQ below (va_Qv (fun (_u : Unit) => True) (fun u t => wb D A ((fun _ => [(h, .inr (7, [.ref sl, .int na, .ref zs, .ref ln, .ref ir, .ref tk, .int su, .int le, .ref tb, .int fu, .int ap, .int pp, .ref tr, .int 3, .ref fz, .int nm])), (tr, .inl (cI, 16, .inl (upd trf (2 : Int32).toNatClampNeg 10)))]) u) t) A) ([.ref h, .int 10] : List Value).toArray s 0 0 A) (F0 m 0 ls [])
  refine lv_aload_n hx hb dX8_begins_0 rfl (lv_at hl 0 rfl) ?_
  refine va_get (D := D) (ci := 7) (v := .int 2) (C := RX8) (T := TX8) (N := 16) hx hb hts (fun _ h => List.mem_cons_of_mem _ (List.mem_append_right _ h)) hown hK hP 0 rfl rfl 13 (by decide) (hts (.fieldLink RX8 208 "WinterWalkModel" "traced" "I") (List.mem_of_getElem? (i := 1) rfl)) (fun _ h9 => h9) rfl dX8_begins_1 ?_
  refine lv_bipush (v := 16) hx hb dX8_begins_4 (by decide) ?_
  refine lv_icmp_ge (tgt := 29) hx hb dX8_begins_6 (by decide) (fun c9 => absurd c9 (by decide)) (fun _ => ?_)
  refine lv_aload_n hx hb dX8_begins_9 rfl (lv_at hl 0 rfl) ?_
  refine va_get (D := D) (ci := 7) (v := .ref tr) (C := RX8) (T := TX8) (N := 16) hx hb hts (fun _ h => List.mem_cons_of_mem _ (List.mem_append_right _ h)) hown hK hP 0 rfl rfl 12 (by decide) (hts (.fieldLink RX8 29 "WinterWalkModel" "trace" "[I") (List.mem_of_getElem? (i := 2) rfl)) (fun _ h9 => h9) rfl dX8_begins_10 ?_
  refine lv_aload_n hx hb dX8_begins_13 rfl (lv_at hl 0 rfl) ?_
  refine va_get (D := D) (ci := 7) (v := .int 2) (C := RX8) (T := TX8) (N := 16) hx hb hts (fun _ h => List.mem_cons_of_mem _ (List.mem_append_right _ h)) hown hK hP 0 rfl rfl 13 (by decide) (hts (.fieldLink RX8 208 "WinterWalkModel" "traced" "I") (List.mem_of_getElem? (i := 1) rfl)) (fun _ h9 => h9) rfl dX8_begins_14 ?_
  refine lv_iload_n hx hb dX8_begins_17 rfl (lv_at hl 1 rfl) ?_
  refine va_iast hx hb hK hP hD hS 1 0 rfl rfl (zi_in (by decide) (by decide)) dX8_begins_18 (fun H locs hP hD hS => ?_)
  have hP : va_P D kl [(h, .inr (7, [.ref sl, .int na, .ref zs, .ref ln, .ref ir, .ref tk, .int su, .int le, .ref tb, .int fu, .int ap, .int pp, .ref tr, .int 2, .ref fz, .int nm])), (tr, .inl (cI, 16, .inl (upd trf (2 : Int32).toNatClampNeg 10)))] H := hP
  have hD : va_D A [(h, .inr (7, [.ref sl, .int na, .ref zs, .ref ln, .ref ir, .ref tk, .int su, .int le, .ref tb, .int fu, .int ap, .int pp, .ref tr, .int 2, .ref fz, .int nm])), (tr, .inl (cI, 16, .inl (upd trf (2 : Int32).toNatClampNeg 10)))] := hD
  refine lv_aload_n hx hb dX8_begins_19 rfl (lv_at hl 0 rfl) ?_
  refine lv_dup hx hb dX8_begins_20 rfl ?_
  refine va_get (D := D) (ci := 7) (v := .int 2) (C := RX8) (T := TX8) (N := 16) hx hb hts (fun _ h => List.mem_cons_of_mem _ (List.mem_append_right _ h)) hown hK hP 0 rfl rfl 13 (by decide) (hts (.fieldLink RX8 208 "WinterWalkModel" "traced" "I") (List.mem_of_getElem? (i := 1) rfl)) (fun _ h9 => h9) rfl dX8_begins_21 ?_
  refine lv_iconst (v := 1) hx hb dX8_begins_24 (by decide) ?_
  refine lv_iadd hx hb dX8_begins_25 ?_
  refine lv_topi (fun x_1 ex_1 => ?_)
  obtain rfl : x_1 = 3 := ex_1.trans (by decide)
  refine va_put (D := D) (ci := 7) (v := .int 3) (ty := .int) (C := RX8) (T := TX8) (N := 16) hx hb hts (fun _ h => List.mem_cons_of_mem _ (List.mem_append_right _ h)) tyX8 tyX8_ok nmX8 hown hK hP hD hS 0 rfl rfl 13 (by decide) (hts (.fieldLink RX8 208 "WinterWalkModel" "traced" "I") (List.mem_of_getElem? (i := 1) rfl)) (fun _ h9 => h9) rfl (by decide +kernel) rfl rfl (Nat.le_of_ble_eq_true rfl) dX8_begins_26 (fun H locs hP hD hS => ?_)
  have hP : va_P D kl [(h, .inr (7, [.ref sl, .int na, .ref zs, .ref ln, .ref ir, .ref tk, .int su, .int le, .ref tb, .int fu, .int ap, .int pp, .ref tr, .int 3, .ref fz, .int nm])), (tr, .inl (cI, 16, .inl (upd trf (2 : Int32).toNatClampNeg 10)))] H := hP
  have hD : va_D A [(h, .inr (7, [.ref sl, .int na, .ref zs, .ref ln, .ref ir, .ref tk, .int su, .int le, .ref tb, .int fu, .int ap, .int pp, .ref tr, .int 3, .ref fz, .int nm])), (tr, .inl (cI, 16, .inl (upd trf (2 : Int32).toNatClampNeg 10)))] := hD
  exact wr_v hx hb hr hlocks hS () (by trivial) (hP.sub [0, 1] rfl) (hD.sub [0, 1] (by decide) rfl) dX8_begins_29
set_option maxHeartbeats 4000000 in
set_option maxRecDepth 100000 in
theorem t_X8_size10_0_2 (l : Launch) (D : va_G) (cI cB cQ : ClassId) (sz : Nat) (h : Nat) (sl : Nat) (zs : Nat) (ln : Nat) (ir : Nat) (tk : Nat) (tb : Nat) (tr : Nat) (fz : Nat) (na : Int32) (su : Int32) (le : Int32) (fu : Int32) (ap : Int32) (pp : Int32) (nm : Int32) (v : Int32) (sf : Nat → Int32) (trf : Nat → Int32) (v0 : Int) (hsi : SI sf v0) (h_na : 0 ≤ na.toInt ∧ na.toInt ≤ 24) (h_le : 0 ≤ le.toInt ∧ le.toInt ≤ 120) (h_ap : 0 ≤ ap.toInt ∧ ap.toInt ≤ 120) (h_pp : 0 ≤ pp.toInt ∧ pp.toInt ≤ 120) (h_v : 0 ≤ v.toInt ∧ v.toInt ≤ 2) : mi l yX8_size10 wsX8_size10 ({ frames := 1, cells := 0, slots := 0, locals := 21 }) D cI cB cQ [.ref h, .int v] sz [(h, .inr (7, [.ref sl, .int na, .ref zs, .ref ln, .ref ir, .ref tk, .int su, .int le, .ref tb, .int fu, .int ap, .int pp, .ref tr, .int 2, .ref fz, .int nm])), (sl, .inl (cI, 1653, .inl sf)), (tr, .inl (cI, 16, .inl trf))] (fun (r : Int32) (_u : Unit) => True) (fun _ => [(h, .inr (7, [.ref sl, .int na, .ref zs, .ref ln, .ref ir, .ref tk, .int su, .int le, .ref tb, .int fu, .int ap, .int pp, .ref tr, .int 3, .ref fz, .int nm])), (sl, .inl (cI, 1653, .inl sf)), (tr, .inl (cI, 16, .inl (upd trf (2 : Int32).toNatClampNeg 10)))]) 0 0 := by
  refine wm_i (cc := cX8_size10) (maxL := 2) (ret := (some .int)) (by decide) rfl (Nat.le_of_ble_eq_true rfl) ?_
  intro p e s m below meth c A ls hx hb hr hml hown hts hlocks hin hP hK hD hN hA hl hS
  have hown : s.vm.findClass RX8 = some m.cls := hown
  have hl : lv_has ls 2 [(0, .ref h), (1, .int v)] := hl
  change W p l e ({ frames := 1, cells := 0, slots := 0, locals := 21 }) s m ([.ref h, .int v] : List Value).toArray below meth c s.heap [] 0 0 (MQ below (va_Qi (fun (r : Int32) (_u : Unit) => True) (fun u t => wb D A ((fun _ => [(h, .inr (7, [.ref sl, .int na, .ref zs, .ref ln, .ref ir, .ref tk, .int su, .int le, .ref tb, .int fu, .int ap, .int pp, .ref tr, .int 3, .ref fz, .int nm])), (sl, .inl (cI, 1653, .inl sf)), (tr, .inl (cI, 16, .inl (upd trf (2 : Int32).toNatClampNeg 10)))]) u) t) A) ([.ref h, .int v] : List Value).toArray s 0 0 A) (F0 m 0 ls [])
  refine lv_aload_n hx hb dX8_size10_0 rfl (lv_at hl 0 rfl) ?_
  refine lv_bipush (v := 10) hx hb dX8_size10_1 (by decide) ?_
  have k_1 := (t_X8_begins_10_2 l D cI cB cQ s.heap.size h sl zs ln ir tk tb tr fz na su le fu ap pp nm trf (by omega) (by omega) (by omega) (by omega))
  refine wc_v (WC := [(h, .inr (7, [.ref sl, .int na, .ref zs, .ref ln, .ref ir, .ref tk, .int su, .int le, .ref tb, .int fu, .int ap, .int pp, .ref tr, .int 2, .ref fz, .int nm])), (tr, .inl (cI, 16, .inl trf))]) (WR := [(sl, .inl (cI, 1653, .inl sf))]) (va_runV (As := [.int 10]) (rest := []) ⟨hx, hb, hml, hown, hts⟩ k_1 (cwV 1 hts gX8_size10_X8_begins rfl rfl rfl (by decide +kernel) ⟨Nat.le_of_ble_eq_true rfl, Nat.le_of_ble_eq_true rfl⟩) (wp_V hP hK hD hN [0, 2] (by decide) rfl (ci := 7) rfl rfl) rfl rfl hl.1 rfl (lv_room (Nat.le_of_ble_eq_true rfl)) dX8_size10_3 ⟨Nat.le_of_ble_eq_true rfl, Nat.le_of_ble_eq_true rfl⟩) hP hD hS hA [0, 2] [1] rfl rfl (by decide) (by decide) (fun u_1 H locs hw_1 hP hD hS => ?_)
  clear k_1
  have hP : va_P D kl [(sl, .inl (cI, 1653, .inl sf)), (h, .inr (7, [.ref sl, .int na, .ref zs, .ref ln, .ref ir, .ref tk, .int su, .int le, .ref tb, .int fu, .int ap, .int pp, .ref tr, .int 3, .ref fz, .int nm])), (tr, .inl (cI, 16, .inl (upd trf (2 : Int32).toNatClampNeg 10)))] H := hP
  have hD : va_D A [(sl, .inl (cI, 1653, .inl sf)), (h, .inr (7, [.ref sl, .int na, .ref zs, .ref ln, .ref ir, .ref tk, .int su, .int le, .ref tb, .int fu, .int ap, .int pp, .ref tr, .int 3, .ref fz, .int nm])), (tr, .inl (cI, 16, .inl (upd trf (2 : Int32).toNatClampNeg 10)))] := hD
  clear hw_1
  refine lv_aload_n hx hb dX8_size10_6 rfl (lv_at hl 0 rfl) ?_
  refine va_get (D := D) (ci := 7) (v := .ref sl) (C := RX8) (T := TX8) (N := 16) hx hb hts (fun _ h => List.mem_cons_of_mem _ (List.mem_append_right _ h)) hown hK hP 1 rfl rfl 0 (by decide) (hts (.fieldLink RX8 7 "WinterWalkModel" "slot" "[I") (List.mem_of_getElem? (i := 1) rfl)) (fun _ h9 => h9) rfl dX8_size10_7 ?_
  refine lv_bipush (v := 48) hx hb dX8_size10_10 (by decide) ?_
  refine lv_iload_n hx hb dX8_size10_12 rfl (lv_at hl 1 rfl) ?_
  refine lv_iadd hx hb dX8_size10_13 ?_
  refine lv_topi (fun x_2 ex_2 => ?_)
  have e_2 : x_2.toInt = 48 + v.toInt := by rw [ex_2]; exact zi_add (by decide) (rfl) (by omega) (by omega)
  clear ex_2
  refine va_iald hx hb hK hP 0 0 rfl rfl (zi_in (by omega) (by omega)) dX8_size10_14 ?_
  refine lv_topi (fun x_3 ex_3 => ?_)
  have f_3 : 0 ≤ x_3.toInt ∧ x_3.toInt ≤ 7 := by rw [ex_3]; exact si_a hsi (s := 0) (k := v.toInt) (by omega) (by omega) (by omega)
  clear ex_3
  exact wr_i (v := x_3) hx hb hr hlocks hS () (by trivial) (hP.sub [1, 0, 2] rfl) (hD.sub [1, 0, 2] (by decide) rfl) dX8_size10_15
set_option maxHeartbeats 4000000 in
set_option maxRecDepth 100000 in
theorem t_X8_begins_24_3 (l : Launch) (D : va_G) (cI cB cQ : ClassId) (sz : Nat) (h : Nat) (sl : Nat) (zs : Nat) (ln : Nat) (ir : Nat) (tk : Nat) (tb : Nat) (tr : Nat) (fz : Nat) (na : Int32) (su : Int32) (le : Int32) (fu : Int32) (ap : Int32) (pp : Int32) (nm : Int32) (trf : Nat → Int32) (h_na : 0 ≤ na.toInt ∧ na.toInt ≤ 24) (h_le : 0 ≤ le.toInt ∧ le.toInt ≤ 120) (h_ap : 0 ≤ ap.toInt ∧ ap.toInt ≤ 120) (h_pp : 0 ≤ pp.toInt ∧ pp.toInt ≤ 120) : mv l yX8_begins wsX8_begins ({ frames := 0, cells := 0, slots := 0, locals := 0 }) D cI cB cQ [.ref h, .int 24] sz [(h, .inr (7, [.ref sl, .int na, .ref zs, .ref ln, .ref ir, .ref tk, .int su, .int le, .ref tb, .int fu, .int ap, .int pp, .ref tr, .int 3, .ref fz, .int nm])), (tr, .inl (cI, 16, .inl trf))] (fun (_u : Unit) => True) (fun _ => [(h, .inr (7, [.ref sl, .int na, .ref zs, .ref ln, .ref ir, .ref tk, .int su, .int le, .ref tb, .int fu, .int ap, .int pp, .ref tr, .int 4, .ref fz, .int nm])), (tr, .inl (cI, 16, .inl (upd trf (3 : Int32).toNatClampNeg 24)))]) 0 0 := by
  refine wm_v (cc := cX8_begins) (maxL := 2) (ret := none) (by decide) rfl (Nat.le_of_ble_eq_true rfl) ?_
  intro p e s m below meth c A ls hx hb hr hml hown hts hlocks hin hP hK hD hN hA hl hS
  have hown : s.vm.findClass RX8 = some m.cls := hown
  have hl : lv_has ls 2 [(0, .ref h), (1, .int 24)] := hl
  change W p l e ({ frames := 0, cells := 0, slots := 0, locals := 0 }) s m ([.ref h, .int 24] : List Value).toArray below meth c s.heap [] 0 0 (MQ below (va_Qv (fun (_u : Unit) => True) (fun u t => wb D A ((fun _ => [(h, .inr (7, [.ref sl, .int na, .ref zs, .ref ln, .ref ir, .ref tk, .int su, .int le, .ref tb, .int fu, .int ap, .int pp, .ref tr, .int 4, .ref fz, .int nm])), (tr, .inl (cI, 16, .inl (upd trf (3 : Int32).toNatClampNeg 24)))]) u) t) A) ([.ref h, .int 24] : List Value).toArray s 0 0 A) (F0 m 0 ls [])
  refine lv_aload_n hx hb dX8_begins_0 rfl (lv_at hl 0 rfl) ?_
  refine va_get (D := D) (ci := 7) (v := .int 3) (C := RX8) (T := TX8) (N := 16) hx hb hts (fun _ h => List.mem_cons_of_mem _ (List.mem_append_right _ h)) hown hK hP 0 rfl rfl 13 (by decide) (hts (.fieldLink RX8 208 "WinterWalkModel" "traced" "I") (List.mem_of_getElem? (i := 1) rfl)) (fun _ h9 => h9) rfl dX8_begins_1 ?_
  refine lv_bipush (v := 16) hx hb dX8_begins_4 (by decide) ?_
  refine lv_icmp_ge (tgt := 29) hx hb dX8_begins_6 (by decide) (fun c9 => absurd c9 (by decide)) (fun _ => ?_)
  refine lv_aload_n hx hb dX8_begins_9 rfl (lv_at hl 0 rfl) ?_
  refine va_get (D := D) (ci := 7) (v := .ref tr) (C := RX8) (T := TX8) (N := 16) hx hb hts (fun _ h => List.mem_cons_of_mem _ (List.mem_append_right _ h)) hown hK hP 0 rfl rfl 12 (by decide) (hts (.fieldLink RX8 29 "WinterWalkModel" "trace" "[I") (List.mem_of_getElem? (i := 2) rfl)) (fun _ h9 => h9) rfl dX8_begins_10 ?_
  refine lv_aload_n hx hb dX8_begins_13 rfl (lv_at hl 0 rfl) ?_
  refine va_get (D := D) (ci := 7) (v := .int 3) (C := RX8) (T := TX8) (N := 16) hx hb hts (fun _ h => List.mem_cons_of_mem _ (List.mem_append_right _ h)) hown hK hP 0 rfl rfl 13 (by decide) (hts (.fieldLink RX8 208 "WinterWalkModel" "traced" "I") (List.mem_of_getElem? (i := 1) rfl)) (fun _ h9 => h9) rfl dX8_begins_14 ?_
  refine lv_iload_n hx hb dX8_begins_17 rfl (lv_at hl 1 rfl) ?_
  refine va_iast hx hb hK hP hD hS 1 0 rfl rfl (zi_in (by decide) (by decide)) dX8_begins_18 (fun H locs hP hD hS => ?_)
  have hP : va_P D kl [(h, .inr (7, [.ref sl, .int na, .ref zs, .ref ln, .ref ir, .ref tk, .int su, .int le, .ref tb, .int fu, .int ap, .int pp, .ref tr, .int 3, .ref fz, .int nm])), (tr, .inl (cI, 16, .inl (upd trf (3 : Int32).toNatClampNeg 24)))] H := hP
  have hD : va_D A [(h, .inr (7, [.ref sl, .int na, .ref zs, .ref ln, .ref ir, .ref tk, .int su, .int le, .ref tb, .int fu, .int ap, .int pp, .ref tr, .int 3, .ref fz, .int nm])), (tr, .inl (cI, 16, .inl (upd trf (3 : Int32).toNatClampNeg 24)))] := hD
  refine lv_aload_n hx hb dX8_begins_19 rfl (lv_at hl 0 rfl) ?_
  refine lv_dup hx hb dX8_begins_20 rfl ?_
  refine va_get (D := D) (ci := 7) (v := .int 3) (C := RX8) (T := TX8) (N := 16) hx hb hts (fun _ h => List.mem_cons_of_mem _ (List.mem_append_right _ h)) hown hK hP 0 rfl rfl 13 (by decide) (hts (.fieldLink RX8 208 "WinterWalkModel" "traced" "I") (List.mem_of_getElem? (i := 1) rfl)) (fun _ h9 => h9) rfl dX8_begins_21 ?_
  refine lv_iconst (v := 1) hx hb dX8_begins_24 (by decide) ?_
  refine lv_iadd hx hb dX8_begins_25 ?_
  refine lv_topi (fun x_1 ex_1 => ?_)
  obtain rfl : x_1 = 4 := ex_1.trans (by decide)
  refine va_put (D := D) (ci := 7) (v := .int 4) (ty := .int) (C := RX8) (T := TX8) (N := 16) hx hb hts (fun _ h => List.mem_cons_of_mem _ (List.mem_append_right _ h)) tyX8 tyX8_ok nmX8 hown hK hP hD hS 0 rfl rfl 13 (by decide) (hts (.fieldLink RX8 208 "WinterWalkModel" "traced" "I") (List.mem_of_getElem? (i := 1) rfl)) (fun _ h9 => h9) rfl (by decide +kernel) rfl rfl (Nat.le_of_ble_eq_true rfl) dX8_begins_26 (fun H locs hP hD hS => ?_)
  have hP : va_P D kl [(h, .inr (7, [.ref sl, .int na, .ref zs, .ref ln, .ref ir, .ref tk, .int su, .int le, .ref tb, .int fu, .int ap, .int pp, .ref tr, .int 4, .ref fz, .int nm])), (tr, .inl (cI, 16, .inl (upd trf (3 : Int32).toNatClampNeg 24)))] H := hP
  have hD : va_D A [(h, .inr (7, [.ref sl, .int na, .ref zs, .ref ln, .ref ir, .ref tk, .int su, .int le, .ref tb, .int fu, .int ap, .int pp, .ref tr, .int 4, .ref fz, .int nm])), (tr, .inl (cI, 16, .inl (upd trf (3 : Int32).toNatClampNeg 24)))] := hD
  exact wr_v hx hb hr hlocks hS () (by trivial) (hP.sub [0, 1] rfl) (hD.sub [0, 1] (by decide) rfl) dX8_begins_29
set_option maxHeartbeats 4000000 in
set_option maxRecDepth 100000 in
theorem t_X8_begins_21_4 (l : Launch) (D : va_G) (cI cB cQ : ClassId) (sz : Nat) (h : Nat) (sl : Nat) (zs : Nat) (ln : Nat) (ir : Nat) (tk : Nat) (tb : Nat) (tr : Nat) (fz : Nat) (na : Int32) (su : Int32) (le : Int32) (fu : Int32) (ap : Int32) (pp : Int32) (nm : Int32) (trf : Nat → Int32) (h_na : 0 ≤ na.toInt ∧ na.toInt ≤ 24) (h_le : 0 ≤ le.toInt ∧ le.toInt ≤ 120) (h_ap : 0 ≤ ap.toInt ∧ ap.toInt ≤ 120) (h_pp : 0 ≤ pp.toInt ∧ pp.toInt ≤ 120) : mv l yX8_begins wsX8_begins ({ frames := 0, cells := 0, slots := 0, locals := 0 }) D cI cB cQ [.ref h, .int 21] sz [(h, .inr (7, [.ref sl, .int na, .ref zs, .ref ln, .ref ir, .ref tk, .int su, .int le, .ref tb, .int fu, .int ap, .int pp, .ref tr, .int 4, .ref fz, .int nm])), (tr, .inl (cI, 16, .inl trf))] (fun (_u : Unit) => True) (fun _ => [(h, .inr (7, [.ref sl, .int na, .ref zs, .ref ln, .ref ir, .ref tk, .int su, .int le, .ref tb, .int fu, .int ap, .int pp, .ref tr, .int 5, .ref fz, .int nm])), (tr, .inl (cI, 16, .inl (upd trf (4 : Int32).toNatClampNeg 21)))]) 0 0 := by
  refine wm_v (cc := cX8_begins) (maxL := 2) (ret := none) (by decide) rfl (Nat.le_of_ble_eq_true rfl) ?_
  intro p e s m below meth c A ls hx hb hr hml hown hts hlocks hin hP hK hD hN hA hl hS
  have hown : s.vm.findClass RX8 = some m.cls := hown
  have hl : lv_has ls 2 [(0, .ref h), (1, .int 21)] := hl
  change W p l e ({ frames := 0, cells := 0, slots := 0, locals := 0 }) s m ([.ref h, .int 21] : List Value).toArray below meth c s.heap [] 0 0 (MQ below (va_Qv (fun (_u : Unit) => True) (fun u t => wb D A ((fun _ => [(h, .inr (7, [.ref sl, .int na, .ref zs, .ref ln, .ref ir, .ref tk, .int su, .int le, .ref tb, .int fu, .int ap, .int pp, .ref tr, .int 5, .ref fz, .int nm])), (tr, .inl (cI, 16, .inl (upd trf (4 : Int32).toNatClampNeg 21)))]) u) t) A) ([.ref h, .int 21] : List Value).toArray s 0 0 A) (F0 m 0 ls [])
  refine lv_aload_n hx hb dX8_begins_0 rfl (lv_at hl 0 rfl) ?_
  refine va_get (D := D) (ci := 7) (v := .int 4) (C := RX8) (T := TX8) (N := 16) hx hb hts (fun _ h => List.mem_cons_of_mem _ (List.mem_append_right _ h)) hown hK hP 0 rfl rfl 13 (by decide) (hts (.fieldLink RX8 208 "WinterWalkModel" "traced" "I") (List.mem_of_getElem? (i := 1) rfl)) (fun _ h9 => h9) rfl dX8_begins_1 ?_
  refine lv_bipush (v := 16) hx hb dX8_begins_4 (by decide) ?_
  refine lv_icmp_ge (tgt := 29) hx hb dX8_begins_6 (by decide) (fun c9 => absurd c9 (by decide)) (fun _ => ?_)
  refine lv_aload_n hx hb dX8_begins_9 rfl (lv_at hl 0 rfl) ?_
  refine va_get (D := D) (ci := 7) (v := .ref tr) (C := RX8) (T := TX8) (N := 16) hx hb hts (fun _ h => List.mem_cons_of_mem _ (List.mem_append_right _ h)) hown hK hP 0 rfl rfl 12 (by decide) (hts (.fieldLink RX8 29 "WinterWalkModel" "trace" "[I") (List.mem_of_getElem? (i := 2) rfl)) (fun _ h9 => h9) rfl dX8_begins_10 ?_
  refine lv_aload_n hx hb dX8_begins_13 rfl (lv_at hl 0 rfl) ?_
  refine va_get (D := D) (ci := 7) (v := .int 4) (C := RX8) (T := TX8) (N := 16) hx hb hts (fun _ h => List.mem_cons_of_mem _ (List.mem_append_right _ h)) hown hK hP 0 rfl rfl 13 (by decide) (hts (.fieldLink RX8 208 "WinterWalkModel" "traced" "I") (List.mem_of_getElem? (i := 1) rfl)) (fun _ h9 => h9) rfl dX8_begins_14 ?_
  refine lv_iload_n hx hb dX8_begins_17 rfl (lv_at hl 1 rfl) ?_
  refine va_iast hx hb hK hP hD hS 1 0 rfl rfl (zi_in (by decide) (by decide)) dX8_begins_18 (fun H locs hP hD hS => ?_)
  have hP : va_P D kl [(h, .inr (7, [.ref sl, .int na, .ref zs, .ref ln, .ref ir, .ref tk, .int su, .int le, .ref tb, .int fu, .int ap, .int pp, .ref tr, .int 4, .ref fz, .int nm])), (tr, .inl (cI, 16, .inl (upd trf (4 : Int32).toNatClampNeg 21)))] H := hP
  have hD : va_D A [(h, .inr (7, [.ref sl, .int na, .ref zs, .ref ln, .ref ir, .ref tk, .int su, .int le, .ref tb, .int fu, .int ap, .int pp, .ref tr, .int 4, .ref fz, .int nm])), (tr, .inl (cI, 16, .inl (upd trf (4 : Int32).toNatClampNeg 21)))] := hD
  refine lv_aload_n hx hb dX8_begins_19 rfl (lv_at hl 0 rfl) ?_
  refine lv_dup hx hb dX8_begins_20 rfl ?_
  refine va_get (D := D) (ci := 7) (v := .int 4) (C := RX8) (T := TX8) (N := 16) hx hb hts (fun _ h => List.mem_cons_of_mem _ (List.mem_append_right _ h)) hown hK hP 0 rfl rfl 13 (by decide) (hts (.fieldLink RX8 208 "WinterWalkModel" "traced" "I") (List.mem_of_getElem? (i := 1) rfl)) (fun _ h9 => h9) rfl dX8_begins_21 ?_
  refine lv_iconst (v := 1) hx hb dX8_begins_24 (by decide) ?_
  refine lv_iadd hx hb dX8_begins_25 ?_
  refine lv_topi (fun x_1 ex_1 => ?_)
  obtain rfl : x_1 = 5 := ex_1.trans (by decide)
  refine va_put (D := D) (ci := 7) (v := .int 5) (ty := .int) (C := RX8) (T := TX8) (N := 16) hx hb hts (fun _ h => List.mem_cons_of_mem _ (List.mem_append_right _ h)) tyX8 tyX8_ok nmX8 hown hK hP hD hS 0 rfl rfl 13 (by decide) (hts (.fieldLink RX8 208 "WinterWalkModel" "traced" "I") (List.mem_of_getElem? (i := 1) rfl)) (fun _ h9 => h9) rfl (by decide +kernel) rfl rfl (Nat.le_of_ble_eq_true rfl) dX8_begins_26 (fun H locs hP hD hS => ?_)
  have hP : va_P D kl [(h, .inr (7, [.ref sl, .int na, .ref zs, .ref ln, .ref ir, .ref tk, .int su, .int le, .ref tb, .int fu, .int ap, .int pp, .ref tr, .int 5, .ref fz, .int nm])), (tr, .inl (cI, 16, .inl (upd trf (4 : Int32).toNatClampNeg 21)))] H := hP
  have hD : va_D A [(h, .inr (7, [.ref sl, .int na, .ref zs, .ref ln, .ref ir, .ref tk, .int su, .int le, .ref tb, .int fu, .int ap, .int pp, .ref tr, .int 5, .ref fz, .int nm])), (tr, .inl (cI, 16, .inl (upd trf (4 : Int32).toNatClampNeg 21)))] := hD
  exact wr_v hx hb hr hlocks hS () (by trivial) (hP.sub [0, 1] rfl) (hD.sub [0, 1] (by decide) rfl) dX8_begins_29
set_option maxHeartbeats 4000000 in
set_option maxRecDepth 100000 in
theorem t_X8_begins_20_5 (l : Launch) (D : va_G) (cI cB cQ : ClassId) (sz : Nat) (h : Nat) (sl : Nat) (zs : Nat) (ln : Nat) (ir : Nat) (tk : Nat) (tb : Nat) (tr : Nat) (fz : Nat) (na : Int32) (su : Int32) (le : Int32) (fu : Int32) (ap : Int32) (pp : Int32) (nm : Int32) (trf : Nat → Int32) (h_na : 0 ≤ na.toInt ∧ na.toInt ≤ 24) (h_le : 0 ≤ le.toInt ∧ le.toInt ≤ 120) (h_ap : 0 ≤ ap.toInt ∧ ap.toInt ≤ 120) (h_pp : 0 ≤ pp.toInt ∧ pp.toInt ≤ 120) : mv l yX8_begins wsX8_begins ({ frames := 0, cells := 0, slots := 0, locals := 0 }) D cI cB cQ [.ref h, .int 20] sz [(h, .inr (7, [.ref sl, .int na, .ref zs, .ref ln, .ref ir, .ref tk, .int su, .int le, .ref tb, .int fu, .int ap, .int pp, .ref tr, .int 5, .ref fz, .int nm])), (tr, .inl (cI, 16, .inl trf))] (fun (_u : Unit) => True) (fun _ => [(h, .inr (7, [.ref sl, .int na, .ref zs, .ref ln, .ref ir, .ref tk, .int su, .int le, .ref tb, .int fu, .int ap, .int pp, .ref tr, .int 6, .ref fz, .int nm])), (tr, .inl (cI, 16, .inl (upd trf (5 : Int32).toNatClampNeg 20)))]) 0 0 := by
  refine wm_v (cc := cX8_begins) (maxL := 2) (ret := none) (by decide) rfl (Nat.le_of_ble_eq_true rfl) ?_
  intro p e s m below meth c A ls hx hb hr hml hown hts hlocks hin hP hK hD hN hA hl hS
  have hown : s.vm.findClass RX8 = some m.cls := hown
  have hl : lv_has ls 2 [(0, .ref h), (1, .int 20)] := hl
  change W p l e ({ frames := 0, cells := 0, slots := 0, locals := 0 }) s m ([.ref h, .int 20] : List Value).toArray below meth c s.heap [] 0 0 (MQ below (va_Qv (fun (_u : Unit) => True) (fun u t => wb D A ((fun _ => [(h, .inr (7, [.ref sl, .int na, .ref zs, .ref ln, .ref ir, .ref tk, .int su, .int le, .ref tb, .int fu, .int ap, .int pp, .ref tr, .int 6, .ref fz, .int nm])), (tr, .inl (cI, 16, .inl (upd trf (5 : Int32).toNatClampNeg 20)))]) u) t) A) ([.ref h, .int 20] : List Value).toArray s 0 0 A) (F0 m 0 ls [])
  refine lv_aload_n hx hb dX8_begins_0 rfl (lv_at hl 0 rfl) ?_
  refine va_get (D := D) (ci := 7) (v := .int 5) (C := RX8) (T := TX8) (N := 16) hx hb hts (fun _ h => List.mem_cons_of_mem _ (List.mem_append_right _ h)) hown hK hP 0 rfl rfl 13 (by decide) (hts (.fieldLink RX8 208 "WinterWalkModel" "traced" "I") (List.mem_of_getElem? (i := 1) rfl)) (fun _ h9 => h9) rfl dX8_begins_1 ?_
  refine lv_bipush (v := 16) hx hb dX8_begins_4 (by decide) ?_
  refine lv_icmp_ge (tgt := 29) hx hb dX8_begins_6 (by decide) (fun c9 => absurd c9 (by decide)) (fun _ => ?_)
  refine lv_aload_n hx hb dX8_begins_9 rfl (lv_at hl 0 rfl) ?_
  refine va_get (D := D) (ci := 7) (v := .ref tr) (C := RX8) (T := TX8) (N := 16) hx hb hts (fun _ h => List.mem_cons_of_mem _ (List.mem_append_right _ h)) hown hK hP 0 rfl rfl 12 (by decide) (hts (.fieldLink RX8 29 "WinterWalkModel" "trace" "[I") (List.mem_of_getElem? (i := 2) rfl)) (fun _ h9 => h9) rfl dX8_begins_10 ?_
  refine lv_aload_n hx hb dX8_begins_13 rfl (lv_at hl 0 rfl) ?_
  refine va_get (D := D) (ci := 7) (v := .int 5) (C := RX8) (T := TX8) (N := 16) hx hb hts (fun _ h => List.mem_cons_of_mem _ (List.mem_append_right _ h)) hown hK hP 0 rfl rfl 13 (by decide) (hts (.fieldLink RX8 208 "WinterWalkModel" "traced" "I") (List.mem_of_getElem? (i := 1) rfl)) (fun _ h9 => h9) rfl dX8_begins_14 ?_
  refine lv_iload_n hx hb dX8_begins_17 rfl (lv_at hl 1 rfl) ?_
  refine va_iast hx hb hK hP hD hS 1 0 rfl rfl (zi_in (by decide) (by decide)) dX8_begins_18 (fun H locs hP hD hS => ?_)
  have hP : va_P D kl [(h, .inr (7, [.ref sl, .int na, .ref zs, .ref ln, .ref ir, .ref tk, .int su, .int le, .ref tb, .int fu, .int ap, .int pp, .ref tr, .int 5, .ref fz, .int nm])), (tr, .inl (cI, 16, .inl (upd trf (5 : Int32).toNatClampNeg 20)))] H := hP
  have hD : va_D A [(h, .inr (7, [.ref sl, .int na, .ref zs, .ref ln, .ref ir, .ref tk, .int su, .int le, .ref tb, .int fu, .int ap, .int pp, .ref tr, .int 5, .ref fz, .int nm])), (tr, .inl (cI, 16, .inl (upd trf (5 : Int32).toNatClampNeg 20)))] := hD
  refine lv_aload_n hx hb dX8_begins_19 rfl (lv_at hl 0 rfl) ?_
  refine lv_dup hx hb dX8_begins_20 rfl ?_
  refine va_get (D := D) (ci := 7) (v := .int 5) (C := RX8) (T := TX8) (N := 16) hx hb hts (fun _ h => List.mem_cons_of_mem _ (List.mem_append_right _ h)) hown hK hP 0 rfl rfl 13 (by decide) (hts (.fieldLink RX8 208 "WinterWalkModel" "traced" "I") (List.mem_of_getElem? (i := 1) rfl)) (fun _ h9 => h9) rfl dX8_begins_21 ?_
  refine lv_iconst (v := 1) hx hb dX8_begins_24 (by decide) ?_
  refine lv_iadd hx hb dX8_begins_25 ?_
  refine lv_topi (fun x_1 ex_1 => ?_)
  obtain rfl : x_1 = 6 := ex_1.trans (by decide)
  refine va_put (D := D) (ci := 7) (v := .int 6) (ty := .int) (C := RX8) (T := TX8) (N := 16) hx hb hts (fun _ h => List.mem_cons_of_mem _ (List.mem_append_right _ h)) tyX8 tyX8_ok nmX8 hown hK hP hD hS 0 rfl rfl 13 (by decide) (hts (.fieldLink RX8 208 "WinterWalkModel" "traced" "I") (List.mem_of_getElem? (i := 1) rfl)) (fun _ h9 => h9) rfl (by decide +kernel) rfl rfl (Nat.le_of_ble_eq_true rfl) dX8_begins_26 (fun H locs hP hD hS => ?_)
  have hP : va_P D kl [(h, .inr (7, [.ref sl, .int na, .ref zs, .ref ln, .ref ir, .ref tk, .int su, .int le, .ref tb, .int fu, .int ap, .int pp, .ref tr, .int 6, .ref fz, .int nm])), (tr, .inl (cI, 16, .inl (upd trf (5 : Int32).toNatClampNeg 20)))] H := hP
  have hD : va_D A [(h, .inr (7, [.ref sl, .int na, .ref zs, .ref ln, .ref ir, .ref tk, .int su, .int le, .ref tb, .int fu, .int ap, .int pp, .ref tr, .int 6, .ref fz, .int nm])), (tr, .inl (cI, 16, .inl (upd trf (5 : Int32).toNatClampNeg 20)))] := hD
  exact wr_v hx hb hr hlocks hS () (by trivial) (hP.sub [0, 1] rfl) (hD.sub [0, 1] (by decide) rfl) dX8_begins_29
set_option maxHeartbeats 4000000 in
set_option maxRecDepth 100000 in
theorem t_X8_mark20_0_5 (l : Launch) (D : va_G) (cI cB cQ : ClassId) (sz : Nat) (h : Nat) (sl : Nat) (zs : Nat) (ln : Nat) (ir : Nat) (tk : Nat) (tb : Nat) (tr : Nat) (fz : Nat) (na : Int32) (su : Int32) (le : Int32) (fu : Int32) (ap : Int32) (pp : Int32) (nm : Int32) (v : Int32) (sf : Nat → Int32) (trf : Nat → Int32) (v0 : Int) (hsi : SI sf v0) (h_na : 0 ≤ na.toInt ∧ na.toInt ≤ 24) (h_le : 0 ≤ le.toInt ∧ le.toInt ≤ 120) (h_ap : 0 ≤ ap.toInt ∧ ap.toInt ≤ 120) (h_pp : 0 ≤ pp.toInt ∧ pp.toInt ≤ 120) (h_v : 0 ≤ v.toInt ∧ v.toInt ≤ 2) : mi l yX8_mark20 wsX8_mark20 ({ frames := 1, cells := 0, slots := 0, locals := 21 }) D cI cB cQ [.ref h, .int v] sz [(h, .inr (7, [.ref sl, .int na, .ref zs, .ref ln, .ref ir, .ref tk, .int su, .int le, .ref tb, .int fu, .int ap, .int pp, .ref tr, .int 5, .ref fz, .int nm])), (sl, .inl (cI, 1653, .inl sf)), (tr, .inl (cI, 16, .inl trf))] (fun (r : Int32) (_u : Unit) => True) (fun _ => [(h, .inr (7, [.ref sl, .int na, .ref zs, .ref ln, .ref ir, .ref tk, .int su, .int le, .ref tb, .int fu, .int ap, .int pp, .ref tr, .int 6, .ref fz, .int nm])), (sl, .inl (cI, 1653, .inl sf)), (tr, .inl (cI, 16, .inl (upd trf (5 : Int32).toNatClampNeg 20)))]) 0 0 := by
  refine wm_i (cc := cX8_mark20) (maxL := 2) (ret := (some .int)) (by decide) rfl (Nat.le_of_ble_eq_true rfl) ?_
  intro p e s m below meth c A ls hx hb hr hml hown hts hlocks hin hP hK hD hN hA hl hS
  have hown : s.vm.findClass RX8 = some m.cls := hown
  have hl : lv_has ls 2 [(0, .ref h), (1, .int v)] := hl
  change W p l e ({ frames := 1, cells := 0, slots := 0, locals := 21 }) s m ([.ref h, .int v] : List Value).toArray below meth c s.heap [] 0 0 (MQ below (va_Qi (fun (r : Int32) (_u : Unit) => True) (fun u t => wb D A ((fun _ => [(h, .inr (7, [.ref sl, .int na, .ref zs, .ref ln, .ref ir, .ref tk, .int su, .int le, .ref tb, .int fu, .int ap, .int pp, .ref tr, .int 6, .ref fz, .int nm])), (sl, .inl (cI, 1653, .inl sf)), (tr, .inl (cI, 16, .inl (upd trf (5 : Int32).toNatClampNeg 20)))]) u) t) A) ([.ref h, .int v] : List Value).toArray s 0 0 A) (F0 m 0 ls [])
  refine lv_aload_n hx hb dX8_mark20_0 rfl (lv_at hl 0 rfl) ?_
  refine lv_bipush (v := 20) hx hb dX8_mark20_1 (by decide) ?_
  have k_1 := (t_X8_begins_20_5 l D cI cB cQ s.heap.size h sl zs ln ir tk tb tr fz na su le fu ap pp nm trf (by omega) (by omega) (by omega) (by omega))
  refine wc_v (WC := [(h, .inr (7, [.ref sl, .int na, .ref zs, .ref ln, .ref ir, .ref tk, .int su, .int le, .ref tb, .int fu, .int ap, .int pp, .ref tr, .int 5, .ref fz, .int nm])), (tr, .inl (cI, 16, .inl trf))]) (WR := [(sl, .inl (cI, 1653, .inl sf))]) (va_runV (As := [.int 20]) (rest := []) ⟨hx, hb, hml, hown, hts⟩ k_1 (cwV 1 hts gX8_mark20_X8_begins rfl rfl rfl (by decide +kernel) ⟨Nat.le_of_ble_eq_true rfl, Nat.le_of_ble_eq_true rfl⟩) (wp_V hP hK hD hN [0, 2] (by decide) rfl (ci := 7) rfl rfl) rfl rfl hl.1 rfl (lv_room (Nat.le_of_ble_eq_true rfl)) dX8_mark20_3 ⟨Nat.le_of_ble_eq_true rfl, Nat.le_of_ble_eq_true rfl⟩) hP hD hS hA [0, 2] [1] rfl rfl (by decide) (by decide) (fun u_1 H locs hw_1 hP hD hS => ?_)
  clear k_1
  have hP : va_P D kl [(sl, .inl (cI, 1653, .inl sf)), (h, .inr (7, [.ref sl, .int na, .ref zs, .ref ln, .ref ir, .ref tk, .int su, .int le, .ref tb, .int fu, .int ap, .int pp, .ref tr, .int 6, .ref fz, .int nm])), (tr, .inl (cI, 16, .inl (upd trf (5 : Int32).toNatClampNeg 20)))] H := hP
  have hD : va_D A [(sl, .inl (cI, 1653, .inl sf)), (h, .inr (7, [.ref sl, .int na, .ref zs, .ref ln, .ref ir, .ref tk, .int su, .int le, .ref tb, .int fu, .int ap, .int pp, .ref tr, .int 6, .ref fz, .int nm])), (tr, .inl (cI, 16, .inl (upd trf (5 : Int32).toNatClampNeg 20)))] := hD
  clear hw_1
  refine lv_iload_n hx hb dX8_mark20_6 rfl (lv_at hl 1 rfl) ?_
  exact wr_i (v := v) hx hb hr hlocks hS () (by trivial) (hP.sub [1, 0, 2] rfl) (hD.sub [1, 0, 2] (by decide) rfl) dX8_mark20_7
set_option maxHeartbeats 4000000 in
set_option maxRecDepth 100000 in
theorem t_X8_mark21_0_4 (l : Launch) (D : va_G) (cI cB cQ : ClassId) (sz : Nat) (h : Nat) (sl : Nat) (zs : Nat) (ln : Nat) (ir : Nat) (tk : Nat) (tb : Nat) (tr : Nat) (fz : Nat) (na : Int32) (su : Int32) (le : Int32) (fu : Int32) (ap : Int32) (pp : Int32) (nm : Int32) (v : Int32) (sf : Nat → Int32) (trf : Nat → Int32) (v0 : Int) (hsi : SI sf v0) (h_na : 0 ≤ na.toInt ∧ na.toInt ≤ 24) (h_le : 0 ≤ le.toInt ∧ le.toInt ≤ 120) (h_ap : 0 ≤ ap.toInt ∧ ap.toInt ≤ 120) (h_pp : 0 ≤ pp.toInt ∧ pp.toInt ≤ 120) (h_v : 0 ≤ v.toInt ∧ v.toInt ≤ 2) : mi l yX8_mark21 wsX8_mark21 ({ frames := 2, cells := 0, slots := 0, locals := 42 }) D cI cB cQ [.ref h, .int v] sz [(h, .inr (7, [.ref sl, .int na, .ref zs, .ref ln, .ref ir, .ref tk, .int su, .int le, .ref tb, .int fu, .int ap, .int pp, .ref tr, .int 4, .ref fz, .int nm])), (sl, .inl (cI, 1653, .inl sf)), (tr, .inl (cI, 16, .inl trf))] (fun (r : Int32) (_u : Unit) => True) (fun _ => [(h, .inr (7, [.ref sl, .int na, .ref zs, .ref ln, .ref ir, .ref tk, .int su, .int le, .ref tb, .int fu, .int ap, .int pp, .ref tr, .int 6, .ref fz, .int nm])), (sl, .inl (cI, 1653, .inl sf)), (tr, .inl (cI, 16, .inl (upd (upd trf (4 : Int32).toNatClampNeg 21) (5 : Int32).toNatClampNeg 20)))]) 0 0 := by
  refine wm_i (cc := cX8_mark21) (maxL := 3) (ret := (some .int)) (by decide) rfl (Nat.le_of_ble_eq_true rfl) ?_
  intro p e s m below meth c A ls hx hb hr hml hown hts hlocks hin hP hK hD hN hA hl hS
  have hown : s.vm.findClass RX8 = some m.cls := hown
  have hl : lv_has ls 3 [(0, .ref h), (1, .int v)] := hl
  change W p l e ({ frames := 2, cells := 0, slots := 0, locals := 42 }) s m ([.ref h, .int v] : List Value).toArray below meth c s.heap [] 0 0 (MQ below (va_Qi (fun (r : Int32) (_u : Unit) => True) (fun u t => wb D A ((fun _ => [(h, .inr (7, [.ref sl, .int na, .ref zs, .ref ln, .ref ir, .ref tk, .int su, .int le, .ref tb, .int fu, .int ap, .int pp, .ref tr, .int 6, .ref fz, .int nm])), (sl, .inl (cI, 1653, .inl sf)), (tr, .inl (cI, 16, .inl (upd (upd trf (4 : Int32).toNatClampNeg 21) (5 : Int32).toNatClampNeg 20)))]) u) t) A) ([.ref h, .int v] : List Value).toArray s 0 0 A) (F0 m 0 ls [])
  refine lv_aload_n hx hb dX8_mark21_0 rfl (lv_at hl 0 rfl) ?_
  refine lv_bipush (v := 21) hx hb dX8_mark21_1 (by decide) ?_
  have k_1 := (t_X8_begins_21_4 l D cI cB cQ s.heap.size h sl zs ln ir tk tb tr fz na su le fu ap pp nm trf (by omega) (by omega) (by omega) (by omega))
  refine wc_v (WC := [(h, .inr (7, [.ref sl, .int na, .ref zs, .ref ln, .ref ir, .ref tk, .int su, .int le, .ref tb, .int fu, .int ap, .int pp, .ref tr, .int 4, .ref fz, .int nm])), (tr, .inl (cI, 16, .inl trf))]) (WR := [(sl, .inl (cI, 1653, .inl sf))]) (va_runV (As := [.int 21]) (rest := []) ⟨hx, hb, hml, hown, hts⟩ k_1 (cwV 1 hts gX8_mark21_X8_begins rfl rfl rfl (by decide +kernel) ⟨Nat.le_of_ble_eq_true rfl, Nat.le_of_ble_eq_true rfl⟩) (wp_V hP hK hD hN [0, 2] (by decide) rfl (ci := 7) rfl rfl) rfl rfl hl.1 rfl (lv_room (Nat.le_of_ble_eq_true rfl)) dX8_mark21_3 ⟨Nat.le_of_ble_eq_true rfl, Nat.le_of_ble_eq_true rfl⟩) hP hD hS hA [0, 2] [1] rfl rfl (by decide) (by decide) (fun u_1 H locs hw_1 hP hD hS => ?_)
  clear k_1
  have hP : va_P D kl [(sl, .inl (cI, 1653, .inl sf)), (h, .inr (7, [.ref sl, .int na, .ref zs, .ref ln, .ref ir, .ref tk, .int su, .int le, .ref tb, .int fu, .int ap, .int pp, .ref tr, .int 5, .ref fz, .int nm])), (tr, .inl (cI, 16, .inl (upd trf (4 : Int32).toNatClampNeg 21)))] H := hP
  have hD : va_D A [(sl, .inl (cI, 1653, .inl sf)), (h, .inr (7, [.ref sl, .int na, .ref zs, .ref ln, .ref ir, .ref tk, .int su, .int le, .ref tb, .int fu, .int ap, .int pp, .ref tr, .int 5, .ref fz, .int nm])), (tr, .inl (cI, 16, .inl (upd trf (4 : Int32).toNatClampNeg 21)))] := hD
  clear hw_1
  refine lv_aload_n hx hb dX8_mark21_6 rfl (lv_at hl 0 rfl) ?_
  refine lv_iload_n hx hb dX8_mark21_7 rfl (lv_at hl 1 rfl) ?_
  have k_2 := (t_X8_mark20_0_5 l D cI cB cQ H.size h sl zs ln ir tk tb tr fz na su le fu ap pp nm v sf (upd trf (4 : Int32).toNatClampNeg 21) v0 hsi (by omega) (by omega) (by omega) (by omega) (by omega))
  refine wc_i (WC := [(h, .inr (7, [.ref sl, .int na, .ref zs, .ref ln, .ref ir, .ref tk, .int su, .int le, .ref tb, .int fu, .int ap, .int pp, .ref tr, .int 5, .ref fz, .int nm])), (sl, .inl (cI, 1653, .inl sf)), (tr, .inl (cI, 16, .inl (upd trf (4 : Int32).toNatClampNeg 21)))]) (WR := []) (va_runV (As := [.int v]) (rest := []) ⟨hx, hb, hml, hown, hts⟩ k_2 (cwV 1 hts gX8_mark21_X8_mark20 rfl rfl rfl (by decide +kernel) ⟨Nat.le_of_ble_eq_true rfl, Nat.le_of_ble_eq_true rfl⟩) (wp_V hP hK hD hN [1, 0, 2] (by decide) rfl (ci := 7) rfl rfl) rfl rfl hl.1 rfl (lv_room (Nat.le_of_ble_eq_true rfl)) dX8_mark21_8 ⟨Nat.le_of_ble_eq_true rfl, Nat.le_of_ble_eq_true rfl⟩) hP hD hS hA [1, 0, 2] [] rfl rfl (by decide) (by decide) (fun r_2 u_2 H locs hw_2 hP hD hS => ?_)
  clear k_2
  have hP : va_P D kl [(h, .inr (7, [.ref sl, .int na, .ref zs, .ref ln, .ref ir, .ref tk, .int su, .int le, .ref tb, .int fu, .int ap, .int pp, .ref tr, .int 6, .ref fz, .int nm])), (sl, .inl (cI, 1653, .inl sf)), (tr, .inl (cI, 16, .inl (upd (upd trf (4 : Int32).toNatClampNeg 21) (5 : Int32).toNatClampNeg 20)))] H := hP
  have hD : va_D A [(h, .inr (7, [.ref sl, .int na, .ref zs, .ref ln, .ref ir, .ref tk, .int su, .int le, .ref tb, .int fu, .int ap, .int pp, .ref tr, .int 6, .ref fz, .int nm])), (sl, .inl (cI, 1653, .inl sf)), (tr, .inl (cI, 16, .inl (upd (upd trf (4 : Int32).toNatClampNeg 21) (5 : Int32).toNatClampNeg 20)))] := hD
  clear hw_2
  refine lv_istore_n (lv' := [(2, .int r_2), (0, .ref h), (1, .int v)]) hx hb dX8_mark21_11 rfl hl (by decide) rfl (fun ls hl => ?_)
  refine lv_iload_n hx hb dX8_mark21_12 rfl (lv_at hl 0 rfl) ?_
  refine lv_aload_n hx hb dX8_mark21_13 rfl (lv_at hl 1 rfl) ?_
  refine va_get (D := D) (ci := 7) (v := .ref sl) (C := RX8) (T := TX8) (N := 16) hx hb hts (fun _ h => List.mem_cons_of_mem _ (List.mem_append_right _ h)) hown hK hP 0 rfl rfl 0 (by decide) (hts (.fieldLink RX8 7 "WinterWalkModel" "slot" "[I") (List.mem_of_getElem? (i := 1) rfl)) (fun _ h9 => h9) rfl dX8_mark21_14 ?_
  refine lv_bipush (v := 23) hx hb dX8_mark21_17 (by decide) ?_
  refine lv_aload_n hx hb dX8_mark21_19 rfl (lv_at hl 1 rfl) ?_
  refine va_get (D := D) (ci := 7) (v := .ref sl) (C := RX8) (T := TX8) (N := 16) hx hb hts (fun _ h => List.mem_cons_of_mem _ (List.mem_append_right _ h)) hown hK hP 0 rfl rfl 0 (by decide) (hts (.fieldLink RX8 7 "WinterWalkModel" "slot" "[I") (List.mem_of_getElem? (i := 1) rfl)) (fun _ h9 => h9) rfl dX8_mark21_20 ?_
  refine lv_bipush (v := 48) hx hb dX8_mark21_23 (by decide) ?_
  refine lv_iload_n hx hb dX8_mark21_25 rfl (lv_at hl 2 rfl) ?_
  refine lv_iadd hx hb dX8_mark21_26 ?_
  refine lv_topi (fun x_3 ex_3 => ?_)
  have e_3 : x_3.toInt = 48 + v.toInt := by rw [ex_3]; exact zi_add (by decide) (rfl) (by omega) (by omega)
  clear ex_3
  refine va_iald hx hb hK hP 1 0 rfl rfl (zi_in (by omega) (by omega)) dX8_mark21_27 ?_
  refine lv_topi (fun x_4 ex_4 => ?_)
  have f_4 : 0 ≤ x_4.toInt ∧ x_4.toInt ≤ 7 := by rw [ex_4]; exact si_a hsi (s := 0) (k := v.toInt) (by omega) (by omega) (by omega)
  clear ex_4
  refine lv_iadd hx hb dX8_mark21_28 ?_
  refine lv_topi (fun x_5 ex_5 => ?_)
  have e_5 : x_5.toInt = 23 + x_4.toInt := by rw [ex_5]; exact zi_add (by decide) (rfl) (by omega) (by omega)
  clear ex_5
  refine va_iald hx hb hK hP 1 0 rfl rfl (zi_in (by omega) (by omega)) dX8_mark21_29 ?_
  refine lv_topi (fun x_6 ex_6 => ?_)
  clear ex_6
  refine lv_iadd hx hb dX8_mark21_30 ?_
  refine lv_topi (fun x_7 ex_7 => ?_)
  clear ex_7
  exact wr_i (v := x_7) hx hb hr hlocks hS () (by trivial) (hP.sub [0, 1, 2] rfl) (hD.sub [0, 1, 2] (by decide) rfl) dX8_mark21_31
set_option maxHeartbeats 4000000 in
set_option maxRecDepth 100000 in
theorem t_X8_markOld_2_3 (l : Launch) (D : va_G) (cI cB cQ : ClassId) (sz : Nat) (h : Nat) (sl : Nat) (zs : Nat) (ln : Nat) (ir : Nat) (tk : Nat) (tb : Nat) (tr : Nat) (fz : Nat) (na : Int32) (su : Int32) (le : Int32) (fu : Int32) (ap : Int32) (pp : Int32) (nm : Int32) (v : Int32) (sf : Nat → Int32) (trf : Nat → Int32) (v0 : Int) (hsi : SI sf v0) (h_na : 0 ≤ na.toInt ∧ na.toInt ≤ 24) (h_le : 0 ≤ le.toInt ∧ le.toInt ≤ 120) (h_ap : 0 ≤ ap.toInt ∧ ap.toInt ≤ 120) (h_pp : 0 ≤ pp.toInt ∧ pp.toInt ≤ 120) (h_v : 0 ≤ v.toInt ∧ v.toInt ≤ 2) (h_kd : sf (20 + v.toNatClampNeg) = 2) : mi l yX8_markOld wsX8_markOld ({ frames := 3, cells := 0, slots := 0, locals := 64 }) D cI cB cQ [.ref h, .int v] sz [(h, .inr (7, [.ref sl, .int na, .ref zs, .ref ln, .ref ir, .ref tk, .int su, .int le, .ref tb, .int fu, .int ap, .int pp, .ref tr, .int 3, .ref fz, .int nm])), (sl, .inl (cI, 1653, .inl sf)), (tr, .inl (cI, 16, .inl trf))] (fun (r : Int32) (_u : Unit) => True) (fun _ => [(h, .inr (7, [.ref sl, .int na, .ref zs, .ref ln, .ref ir, .ref tk, .int su, .int le, .ref tb, .int fu, .int ap, .int pp, .ref tr, .int 6, .ref fz, .int nm])), (sl, .inl (cI, 1653, .inl sf)), (tr, .inl (cI, 16, .inl (upd (upd (upd trf (3 : Int32).toNatClampNeg 24) (4 : Int32).toNatClampNeg 21) (5 : Int32).toNatClampNeg 20)))]) 0 0 := by
  refine wm_i (cc := cX8_markOld) (maxL := 4) (ret := (some .int)) (by decide) rfl (Nat.le_of_ble_eq_true rfl) ?_
  intro p e s m below meth c A ls hx hb hr hml hown hts hlocks hin hP hK hD hN hA hl hS
  have hown : s.vm.findClass RX8 = some m.cls := hown
  have hl : lv_has ls 4 [(0, .ref h), (1, .int v)] := hl
  change W p l e ({ frames := 3, cells := 0, slots := 0, locals := 64 }) s m ([.ref h, .int v] : List Value).toArray below meth c s.heap [] 0 0 (MQ below (va_Qi (fun (r : Int32) (_u : Unit) => True) (fun u t => wb D A ((fun _ => [(h, .inr (7, [.ref sl, .int na, .ref zs, .ref ln, .ref ir, .ref tk, .int su, .int le, .ref tb, .int fu, .int ap, .int pp, .ref tr, .int 6, .ref fz, .int nm])), (sl, .inl (cI, 1653, .inl sf)), (tr, .inl (cI, 16, .inl (upd (upd (upd trf (3 : Int32).toNatClampNeg 24) (4 : Int32).toNatClampNeg 21) (5 : Int32).toNatClampNeg 20)))]) u) t) A) ([.ref h, .int v] : List Value).toArray s 0 0 A) (F0 m 0 ls [])
  refine lv_aload_n hx hb dX8_markOld_0 rfl (lv_at hl 0 rfl) ?_
  refine va_get (D := D) (ci := 7) (v := .ref sl) (C := RX8) (T := TX8) (N := 16) hx hb hts (fun _ h => List.mem_cons_of_mem _ (List.mem_append_right _ h)) hown hK hP 0 rfl rfl 0 (by decide) (hts (.fieldLink RX8 7 "WinterWalkModel" "slot" "[I") (List.mem_of_getElem? (i := 1) rfl)) (fun _ h9 => h9) rfl dX8_markOld_1 ?_
  refine lv_bipush (v := 20) hx hb dX8_markOld_4 (by decide) ?_
  refine lv_iload_n hx hb dX8_markOld_6 rfl (lv_at hl 1 rfl) ?_
  refine lv_iadd hx hb dX8_markOld_7 ?_
  refine lv_topi (fun x_1 ex_1 => ?_)
  have e_1 : x_1.toInt = 20 + v.toInt := by rw [ex_1]; exact zi_add (by decide) (rfl) (by omega) (by omega)
  clear ex_1
  refine va_iald hx hb hK hP 1 0 rfl rfl (zi_in (by omega) (by omega)) dX8_markOld_8 ?_
  refine lv_topi (fun x_2 ex_2 => ?_)
  obtain rfl : x_2 = 2 := ex_2.trans ((congrArg sf (show (x_1 : Int32).toNatClampNeg = 20 + v.toNatClampNeg from by have h9 := zi_cn (x := x_1) (by omega); have h8 := zi_cn (x := v) (by omega); omega)).trans h_kd)
  refine lv_istore_n (lv' := [(2, .int 2), (0, .ref h), (1, .int v)]) hx hb dX8_markOld_9 rfl hl (by decide) rfl (fun ls hl => ?_)
  refine lv_iload_n hx hb dX8_markOld_10 rfl (lv_at hl 0 rfl) ?_
  refine lv_iconst (v := 1) hx hb dX8_markOld_11 (by decide) ?_
  refine lv_icmp_ne (tgt := 21) hx hb dX8_markOld_12 (by decide) (fun _ => ?_) (fun c9 => absurd c9 (by decide))
  refine lv_aload_n hx hb dX8_markOld_21 rfl (lv_at hl 1 rfl) ?_
  refine lv_iload_n hx hb dX8_markOld_22 rfl (lv_at hl 0 rfl) ?_
  refine lv_iconst (v := 3) hx hb dX8_markOld_23 (by decide) ?_
  refine lv_icmp_ne (tgt := 32) hx hb dX8_markOld_24 (by decide) (fun _ => ?_) (fun c9 => absurd c9 (by decide))
  refine lv_bipush (v := 24) hx hb dX8_markOld_32 (by decide) ?_
  have k_3 := (t_X8_begins_24_3 l D cI cB cQ s.heap.size h sl zs ln ir tk tb tr fz na su le fu ap pp nm trf (by omega) (by omega) (by omega) (by omega))
  refine wc_v (WC := [(h, .inr (7, [.ref sl, .int na, .ref zs, .ref ln, .ref ir, .ref tk, .int su, .int le, .ref tb, .int fu, .int ap, .int pp, .ref tr, .int 3, .ref fz, .int nm])), (tr, .inl (cI, 16, .inl trf))]) (WR := [(sl, .inl (cI, 1653, .inl sf))]) (va_runV (As := [.int 24]) (rest := []) ⟨hx, hb, hml, hown, hts⟩ k_3 (cwV 1 hts gX8_markOld_X8_begins rfl rfl rfl (by decide +kernel) ⟨Nat.le_of_ble_eq_true rfl, Nat.le_of_ble_eq_true rfl⟩) (wp_V hP hK hD hN [0, 2] (by decide) rfl (ci := 7) rfl rfl) rfl rfl hl.1 rfl (lv_room (Nat.le_of_ble_eq_true rfl)) dX8_markOld_34 ⟨Nat.le_of_ble_eq_true rfl, Nat.le_of_ble_eq_true rfl⟩) hP hD hS hA [0, 2] [1] rfl rfl (by decide) (by decide) (fun u_3 H locs hw_3 hP hD hS => ?_)
  clear k_3
  have hP : va_P D kl [(sl, .inl (cI, 1653, .inl sf)), (h, .inr (7, [.ref sl, .int na, .ref zs, .ref ln, .ref ir, .ref tk, .int su, .int le, .ref tb, .int fu, .int ap, .int pp, .ref tr, .int 4, .ref fz, .int nm])), (tr, .inl (cI, 16, .inl (upd trf (3 : Int32).toNatClampNeg 24)))] H := hP
  have hD : va_D A [(sl, .inl (cI, 1653, .inl sf)), (h, .inr (7, [.ref sl, .int na, .ref zs, .ref ln, .ref ir, .ref tk, .int su, .int le, .ref tb, .int fu, .int ap, .int pp, .ref tr, .int 4, .ref fz, .int nm])), (tr, .inl (cI, 16, .inl (upd trf (3 : Int32).toNatClampNeg 24)))] := hD
  clear hw_3
  refine lv_aload_n hx hb dX8_markOld_37 rfl (lv_at hl 1 rfl) ?_
  refine lv_iload_n hx hb dX8_markOld_38 rfl (lv_at hl 2 rfl) ?_
  have k_4 := (t_X8_mark21_0_4 l D cI cB cQ H.size h sl zs ln ir tk tb tr fz na su le fu ap pp nm v sf (upd trf (3 : Int32).toNatClampNeg 24) v0 hsi (by omega) (by omega) (by omega) (by omega) (by omega))
  refine wc_i (WC := [(h, .inr (7, [.ref sl, .int na, .ref zs, .ref ln, .ref ir, .ref tk, .int su, .int le, .ref tb, .int fu, .int ap, .int pp, .ref tr, .int 4, .ref fz, .int nm])), (sl, .inl (cI, 1653, .inl sf)), (tr, .inl (cI, 16, .inl (upd trf (3 : Int32).toNatClampNeg 24)))]) (WR := []) (va_runV (As := [.int v]) (rest := []) ⟨hx, hb, hml, hown, hts⟩ k_4 (cwV 1 hts gX8_markOld_X8_mark21 rfl rfl rfl (by decide +kernel) ⟨Nat.le_of_ble_eq_true rfl, Nat.le_of_ble_eq_true rfl⟩) (wp_V hP hK hD hN [1, 0, 2] (by decide) rfl (ci := 7) rfl rfl) rfl rfl hl.1 rfl (lv_room (Nat.le_of_ble_eq_true rfl)) dX8_markOld_39 ⟨Nat.le_of_ble_eq_true rfl, Nat.le_of_ble_eq_true rfl⟩) hP hD hS hA [1, 0, 2] [] rfl rfl (by decide) (by decide) (fun r_4 u_4 H locs hw_4 hP hD hS => ?_)
  clear k_4
  have hP : va_P D kl [(h, .inr (7, [.ref sl, .int na, .ref zs, .ref ln, .ref ir, .ref tk, .int su, .int le, .ref tb, .int fu, .int ap, .int pp, .ref tr, .int 6, .ref fz, .int nm])), (sl, .inl (cI, 1653, .inl sf)), (tr, .inl (cI, 16, .inl (upd (upd (upd trf (3 : Int32).toNatClampNeg 24) (4 : Int32).toNatClampNeg 21) (5 : Int32).toNatClampNeg 20)))] H := hP
  have hD : va_D A [(h, .inr (7, [.ref sl, .int na, .ref zs, .ref ln, .ref ir, .ref tk, .int su, .int le, .ref tb, .int fu, .int ap, .int pp, .ref tr, .int 6, .ref fz, .int nm])), (sl, .inl (cI, 1653, .inl sf)), (tr, .inl (cI, 16, .inl (upd (upd (upd trf (3 : Int32).toNatClampNeg 24) (4 : Int32).toNatClampNeg 21) (5 : Int32).toNatClampNeg 20)))] := hD
  clear hw_4
  refine lv_istore_n (lv' := [(3, .int r_4), (2, .int 2), (0, .ref h), (1, .int v)]) hx hb dX8_markOld_42 rfl hl (by decide) rfl (fun ls hl => ?_)
  refine lv_iload_n hx hb dX8_markOld_43 rfl (lv_at hl 1 rfl) ?_
  refine lv_iconst (v := 3) hx hb dX8_markOld_44 (by decide) ?_
  refine lv_icmp_ne (tgt := 56) hx hb dX8_markOld_45 (by decide) (fun _ => ?_) (fun c9 => absurd c9 (by decide))
  refine lv_iconst (v := 2) hx hb dX8_markOld_56 (by decide) ?_
  refine lv_iload_n hx hb dX8_markOld_57 rfl (lv_at hl 0 rfl) ?_
  refine lv_imul hx hb dX8_markOld_58 ?_
  refine lv_topi (fun x_5 ex_5 => ?_)
  clear ex_5
  exact wr_i (v := x_5) hx hb hr hlocks hS () (by trivial) (hP.sub [0, 1, 2] rfl) (hD.sub [0, 1, 2] (by decide) rfl) dX8_markOld_59
set_option maxHeartbeats 4000000 in
set_option maxRecDepth 100000 in
theorem t_X8_size11_2_1 (l : Launch) (D : va_G) (cI cB cQ : ClassId) (sz : Nat) (h : Nat) (sl : Nat) (zs : Nat) (ln : Nat) (ir : Nat) (tk : Nat) (tb : Nat) (tr : Nat) (fz : Nat) (na : Int32) (su : Int32) (le : Int32) (fu : Int32) (ap : Int32) (pp : Int32) (nm : Int32) (v : Int32) (sf : Nat → Int32) (trf : Nat → Int32) (v0 : Int) (hsi : SI sf v0) (h_na : 0 ≤ na.toInt ∧ na.toInt ≤ 24) (h_le : 0 ≤ le.toInt ∧ le.toInt ≤ 120) (h_ap : 0 ≤ ap.toInt ∧ ap.toInt ≤ 120) (h_pp : 0 ≤ pp.toInt ∧ pp.toInt ≤ 120) (h_v : 0 ≤ v.toInt ∧ v.toInt ≤ 2) (h_kd : sf (20 + v.toNatClampNeg) = 2) : mi l yX8_size11 wsX8_size11 ({ frames := 4, cells := 0, slots := 0, locals := 87 }) D cI cB cQ [.ref h, .int v] sz [(h, .inr (7, [.ref sl, .int na, .ref zs, .ref ln, .ref ir, .ref tk, .int su, .int le, .ref tb, .int fu, .int ap, .int pp, .ref tr, .int 1, .ref fz, .int nm])), (sl, .inl (cI, 1653, .inl sf)), (tr, .inl (cI, 16, .inl trf))] (fun (r : Int32) (_u : Unit) => True) (fun _ => [(h, .inr (7, [.ref sl, .int na, .ref zs, .ref ln, .ref ir, .ref tk, .int su, .int le, .ref tb, .int fu, .int ap, .int pp, .ref tr, .int 6, .ref fz, .int nm])), (sl, .inl (cI, 1653, .inl sf)), (tr, .inl (cI, 16, .inl (upd (upd (upd (upd (upd trf (1 : Int32).toNatClampNeg 11) (2 : Int32).toNatClampNeg 10) (3 : Int32).toNatClampNeg 24) (4 : Int32).toNatClampNeg 21) (5 : Int32).toNatClampNeg 20)))]) 0 0 := by
  refine wm_i (cc := cX8_size11) (maxL := 3) (ret := (some .int)) (by decide) rfl (Nat.le_of_ble_eq_true rfl) ?_
  intro p e s m below meth c A ls hx hb hr hml hown hts hlocks hin hP hK hD hN hA hl hS
  have hown : s.vm.findClass RX8 = some m.cls := hown
  have hl : lv_has ls 3 [(0, .ref h), (1, .int v)] := hl
  change W p l e ({ frames := 4, cells := 0, slots := 0, locals := 87 }) s m ([.ref h, .int v] : List Value).toArray below meth c s.heap [] 0 0 (MQ below (va_Qi (fun (r : Int32) (_u : Unit) => True) (fun u t => wb D A ((fun _ => [(h, .inr (7, [.ref sl, .int na, .ref zs, .ref ln, .ref ir, .ref tk, .int su, .int le, .ref tb, .int fu, .int ap, .int pp, .ref tr, .int 6, .ref fz, .int nm])), (sl, .inl (cI, 1653, .inl sf)), (tr, .inl (cI, 16, .inl (upd (upd (upd (upd (upd trf (1 : Int32).toNatClampNeg 11) (2 : Int32).toNatClampNeg 10) (3 : Int32).toNatClampNeg 24) (4 : Int32).toNatClampNeg 21) (5 : Int32).toNatClampNeg 20)))]) u) t) A) ([.ref h, .int v] : List Value).toArray s 0 0 A) (F0 m 0 ls [])
  refine lv_aload_n hx hb dX8_size11_0 rfl (lv_at hl 0 rfl) ?_
  refine lv_bipush (v := 11) hx hb dX8_size11_1 (by decide) ?_
  have k_1 := (t_X8_begins_11_1 l D cI cB cQ s.heap.size h sl zs ln ir tk tb tr fz na su le fu ap pp nm trf (by omega) (by omega) (by omega) (by omega))
  refine wc_v (WC := [(h, .inr (7, [.ref sl, .int na, .ref zs, .ref ln, .ref ir, .ref tk, .int su, .int le, .ref tb, .int fu, .int ap, .int pp, .ref tr, .int 1, .ref fz, .int nm])), (tr, .inl (cI, 16, .inl trf))]) (WR := [(sl, .inl (cI, 1653, .inl sf))]) (va_runV (As := [.int 11]) (rest := []) ⟨hx, hb, hml, hown, hts⟩ k_1 (cwV 1 hts gX8_size11_X8_begins rfl rfl rfl (by decide +kernel) ⟨Nat.le_of_ble_eq_true rfl, Nat.le_of_ble_eq_true rfl⟩) (wp_V hP hK hD hN [0, 2] (by decide) rfl (ci := 7) rfl rfl) rfl rfl hl.1 rfl (lv_room (Nat.le_of_ble_eq_true rfl)) dX8_size11_3 ⟨Nat.le_of_ble_eq_true rfl, Nat.le_of_ble_eq_true rfl⟩) hP hD hS hA [0, 2] [1] rfl rfl (by decide) (by decide) (fun u_1 H locs hw_1 hP hD hS => ?_)
  clear k_1
  have hP : va_P D kl [(sl, .inl (cI, 1653, .inl sf)), (h, .inr (7, [.ref sl, .int na, .ref zs, .ref ln, .ref ir, .ref tk, .int su, .int le, .ref tb, .int fu, .int ap, .int pp, .ref tr, .int 2, .ref fz, .int nm])), (tr, .inl (cI, 16, .inl (upd trf (1 : Int32).toNatClampNeg 11)))] H := hP
  have hD : va_D A [(sl, .inl (cI, 1653, .inl sf)), (h, .inr (7, [.ref sl, .int na, .ref zs, .ref ln, .ref ir, .ref tk, .int su, .int le, .ref tb, .int fu, .int ap, .int pp, .ref tr, .int 2, .ref fz, .int nm])), (tr, .inl (cI, 16, .inl (upd trf (1 : Int32).toNatClampNeg 11)))] := hD
  clear hw_1
  refine lv_aload_n hx hb dX8_size11_6 rfl (lv_at hl 0 rfl) ?_
  refine lv_iload_n hx hb dX8_size11_7 rfl (lv_at hl 1 rfl) ?_
  have k_2 := (t_X8_size10_0_2 l D cI cB cQ H.size h sl zs ln ir tk tb tr fz na su le fu ap pp nm v sf (upd trf (1 : Int32).toNatClampNeg 11) v0 hsi (by omega) (by omega) (by omega) (by omega) (by omega))
  refine wc_i (WC := [(h, .inr (7, [.ref sl, .int na, .ref zs, .ref ln, .ref ir, .ref tk, .int su, .int le, .ref tb, .int fu, .int ap, .int pp, .ref tr, .int 2, .ref fz, .int nm])), (sl, .inl (cI, 1653, .inl sf)), (tr, .inl (cI, 16, .inl (upd trf (1 : Int32).toNatClampNeg 11)))]) (WR := []) (va_runV (As := [.int v]) (rest := []) ⟨hx, hb, hml, hown, hts⟩ k_2 (cwV 1 hts gX8_size11_X8_size10 rfl rfl rfl (by decide +kernel) ⟨Nat.le_of_ble_eq_true rfl, Nat.le_of_ble_eq_true rfl⟩) (wp_V hP hK hD hN [1, 0, 2] (by decide) rfl (ci := 7) rfl rfl) rfl rfl hl.1 rfl (lv_room (Nat.le_of_ble_eq_true rfl)) dX8_size11_8 ⟨Nat.le_of_ble_eq_true rfl, Nat.le_of_ble_eq_true rfl⟩) hP hD hS hA [1, 0, 2] [] rfl rfl (by decide) (by decide) (fun r_2 u_2 H locs hw_2 hP hD hS => ?_)
  clear k_2
  have hP : va_P D kl [(h, .inr (7, [.ref sl, .int na, .ref zs, .ref ln, .ref ir, .ref tk, .int su, .int le, .ref tb, .int fu, .int ap, .int pp, .ref tr, .int 3, .ref fz, .int nm])), (sl, .inl (cI, 1653, .inl sf)), (tr, .inl (cI, 16, .inl (upd (upd trf (1 : Int32).toNatClampNeg 11) (2 : Int32).toNatClampNeg 10)))] H := hP
  have hD : va_D A [(h, .inr (7, [.ref sl, .int na, .ref zs, .ref ln, .ref ir, .ref tk, .int su, .int le, .ref tb, .int fu, .int ap, .int pp, .ref tr, .int 3, .ref fz, .int nm])), (sl, .inl (cI, 1653, .inl sf)), (tr, .inl (cI, 16, .inl (upd (upd trf (1 : Int32).toNatClampNeg 11) (2 : Int32).toNatClampNeg 10)))] := hD
  clear hw_2
  refine lv_istore_n (lv' := [(2, .int r_2), (0, .ref h), (1, .int v)]) hx hb dX8_size11_11 rfl hl (by decide) rfl (fun ls hl => ?_)
  refine lv_iload_n hx hb dX8_size11_12 rfl (lv_at hl 0 rfl) ?_
  refine lv_aload_n hx hb dX8_size11_13 rfl (lv_at hl 1 rfl) ?_
  refine lv_iload_n hx hb dX8_size11_14 rfl (lv_at hl 2 rfl) ?_
  have k_3 := (t_X8_markOld_2_3 l D cI cB cQ H.size h sl zs ln ir tk tb tr fz na su le fu ap pp nm v sf (upd (upd trf (1 : Int32).toNatClampNeg 11) (2 : Int32).toNatClampNeg 10) v0 hsi (by omega) (by omega) (by omega) (by omega) (by omega) (h_kd))
  refine wc_i (WC := [(h, .inr (7, [.ref sl, .int na, .ref zs, .ref ln, .ref ir, .ref tk, .int su, .int le, .ref tb, .int fu, .int ap, .int pp, .ref tr, .int 3, .ref fz, .int nm])), (sl, .inl (cI, 1653, .inl sf)), (tr, .inl (cI, 16, .inl (upd (upd trf (1 : Int32).toNatClampNeg 11) (2 : Int32).toNatClampNeg 10)))]) (WR := []) (va_runV (As := [.int v]) (rest := [.int r_2]) ⟨hx, hb, hml, hown, hts⟩ k_3 (cwV 1 hts gX8_size11_X8_markOld rfl rfl rfl (by decide +kernel) ⟨Nat.le_of_ble_eq_true rfl, Nat.le_of_ble_eq_true rfl⟩) (wp_V hP hK hD hN [0, 1, 2] (by decide) rfl (ci := 7) rfl rfl) rfl rfl hl.1 rfl (lv_room (Nat.le_of_ble_eq_true rfl)) dX8_size11_15 ⟨Nat.le_of_ble_eq_true rfl, Nat.le_of_ble_eq_true rfl⟩) hP hD hS hA [0, 1, 2] [] rfl rfl (by decide) (by decide) (fun r_3 u_3 H locs hw_3 hP hD hS => ?_)
  clear k_3
  have hP : va_P D kl [(h, .inr (7, [.ref sl, .int na, .ref zs, .ref ln, .ref ir, .ref tk, .int su, .int le, .ref tb, .int fu, .int ap, .int pp, .ref tr, .int 6, .ref fz, .int nm])), (sl, .inl (cI, 1653, .inl sf)), (tr, .inl (cI, 16, .inl (upd (upd (upd (upd (upd trf (1 : Int32).toNatClampNeg 11) (2 : Int32).toNatClampNeg 10) (3 : Int32).toNatClampNeg 24) (4 : Int32).toNatClampNeg 21) (5 : Int32).toNatClampNeg 20)))] H := hP
  have hD : va_D A [(h, .inr (7, [.ref sl, .int na, .ref zs, .ref ln, .ref ir, .ref tk, .int su, .int le, .ref tb, .int fu, .int ap, .int pp, .ref tr, .int 6, .ref fz, .int nm])), (sl, .inl (cI, 1653, .inl sf)), (tr, .inl (cI, 16, .inl (upd (upd (upd (upd (upd trf (1 : Int32).toNatClampNeg 11) (2 : Int32).toNatClampNeg 10) (3 : Int32).toNatClampNeg 24) (4 : Int32).toNatClampNeg 21) (5 : Int32).toNatClampNeg 20)))] := hD
  clear hw_3
  refine lv_iadd hx hb dX8_size11_18 ?_
  refine lv_topi (fun x_4 ex_4 => ?_)
  clear ex_4
  exact wr_i (v := x_4) hx hb hr hlocks hS () (by trivial) (hP.sub [0, 1, 2] rfl) (hD.sub [0, 1, 2] (by decide) rfl) dX8_size11_19
set_option maxHeartbeats 4000000 in
set_option maxRecDepth 100000 in
theorem t_X8_sizeOf_2_0 (l : Launch) (D : va_G) (cI cB cQ : ClassId) (sz : Nat) (h : Nat) (sl : Nat) (zs : Nat) (ln : Nat) (ir : Nat) (tk : Nat) (tb : Nat) (tr : Nat) (fz : Nat) (na : Int32) (su : Int32) (le : Int32) (fu : Int32) (ap : Int32) (pp : Int32) (nm : Int32) (v : Int32) (sf : Nat → Int32) (trf : Nat → Int32) (v0 : Int) (hsi : SI sf v0) (h_na : 0 ≤ na.toInt ∧ na.toInt ≤ 24) (h_le : 0 ≤ le.toInt ∧ le.toInt ≤ 120) (h_ap : 0 ≤ ap.toInt ∧ ap.toInt ≤ 120) (h_pp : 0 ≤ pp.toInt ∧ pp.toInt ≤ 120) (h_v : 0 ≤ v.toInt ∧ v.toInt ≤ 2) (h_kd : sf (20 + v.toNatClampNeg) = 2) : mi l yX8_sizeOf wsX8_sizeOf ({ frames := 5, cells := 0, slots := 0, locals := 109 }) D cI cB cQ [.ref h, .int v] sz [(h, .inr (7, [.ref sl, .int na, .ref zs, .ref ln, .ref ir, .ref tk, .int su, .int le, .ref tb, .int fu, .int ap, .int pp, .ref tr, .int 0, .ref fz, .int nm])), (sl, .inl (cI, 1653, .inl sf)), (tr, .inl (cI, 16, .inl trf))] (fun (r : Int32) (_u : Unit) => True) (fun _ => [(h, .inr (7, [.ref sl, .int na, .ref zs, .ref ln, .ref ir, .ref tk, .int su, .int le, .ref tb, .int fu, .int ap, .int pp, .ref tr, .int 6, .ref fz, .int nm])), (sl, .inl (cI, 1653, .inl sf)), (tr, .inl (cI, 16, .inl (upd (upd (upd (upd (upd (upd trf (0 : Int32).toNatClampNeg 12) (1 : Int32).toNatClampNeg 11) (2 : Int32).toNatClampNeg 10) (3 : Int32).toNatClampNeg 24) (4 : Int32).toNatClampNeg 21) (5 : Int32).toNatClampNeg 20)))]) 0 0 := by
  refine wm_i (cc := cX8_sizeOf) (maxL := 3) (ret := (some .int)) (by decide) rfl (Nat.le_of_ble_eq_true rfl) ?_
  intro p e s m below meth c A ls hx hb hr hml hown hts hlocks hin hP hK hD hN hA hl hS
  have hown : s.vm.findClass RX8 = some m.cls := hown
  have hl : lv_has ls 3 [(0, .ref h), (1, .int v)] := hl
  change W p l e ({ frames := 5, cells := 0, slots := 0, locals := 109 }) s m ([.ref h, .int v] : List Value).toArray below meth c s.heap [] 0 0 (MQ below (va_Qi (fun (r : Int32) (_u : Unit) => True) (fun u t => wb D A ((fun _ => [(h, .inr (7, [.ref sl, .int na, .ref zs, .ref ln, .ref ir, .ref tk, .int su, .int le, .ref tb, .int fu, .int ap, .int pp, .ref tr, .int 6, .ref fz, .int nm])), (sl, .inl (cI, 1653, .inl sf)), (tr, .inl (cI, 16, .inl (upd (upd (upd (upd (upd (upd trf (0 : Int32).toNatClampNeg 12) (1 : Int32).toNatClampNeg 11) (2 : Int32).toNatClampNeg 10) (3 : Int32).toNatClampNeg 24) (4 : Int32).toNatClampNeg 21) (5 : Int32).toNatClampNeg 20)))]) u) t) A) ([.ref h, .int v] : List Value).toArray s 0 0 A) (F0 m 0 ls [])
  refine lv_aload_n hx hb dX8_sizeOf_0 rfl (lv_at hl 0 rfl) ?_
  refine va_get (D := D) (ci := 7) (v := .ref sl) (C := RX8) (T := TX8) (N := 16) hx hb hts (fun _ h => List.mem_cons_of_mem _ (List.mem_append_right _ h)) hown hK hP 0 rfl rfl 0 (by decide) (hts (.fieldLink RX8 7 "WinterWalkModel" "slot" "[I") (List.mem_of_getElem? (i := 1) rfl)) (fun _ h9 => h9) rfl dX8_sizeOf_1 ?_
  refine lv_bipush (v := 20) hx hb dX8_sizeOf_4 (by decide) ?_
  refine lv_iload_n hx hb dX8_sizeOf_6 rfl (lv_at hl 1 rfl) ?_
  refine lv_iadd hx hb dX8_sizeOf_7 ?_
  refine lv_topi (fun x_1 ex_1 => ?_)
  have e_1 : x_1.toInt = 20 + v.toInt := by rw [ex_1]; exact zi_add (by decide) (rfl) (by omega) (by omega)
  clear ex_1
  refine va_iald hx hb hK hP 1 0 rfl rfl (zi_in (by omega) (by omega)) dX8_sizeOf_8 ?_
  refine lv_topi (fun x_2 ex_2 => ?_)
  obtain rfl : x_2 = 2 := ex_2.trans ((congrArg sf (show (x_1 : Int32).toNatClampNeg = 20 + v.toNatClampNeg from by have h9 := zi_cn (x := x_1) (by omega); have h8 := zi_cn (x := v) (by omega); omega)).trans h_kd)
  refine lv_istore_n (lv' := [(2, .int 2), (0, .ref h), (1, .int v)]) hx hb dX8_sizeOf_9 rfl hl (by decide) rfl (fun ls hl => ?_)
  refine lv_iload_n hx hb dX8_sizeOf_10 rfl (lv_at hl 0 rfl) ?_
  refine lv_iconst (v := 1) hx hb dX8_sizeOf_11 (by decide) ?_
  refine lv_icmp_eq (tgt := 20) hx hb dX8_sizeOf_12 (by decide) (fun c9 => absurd c9 (by decide)) (fun _ => ?_)
  refine lv_iload_n hx hb dX8_sizeOf_15 rfl (lv_at hl 0 rfl) ?_
  refine lv_iconst (v := 3) hx hb dX8_sizeOf_16 (by decide) ?_
  refine lv_icmp_ne (tgt := 26) hx hb dX8_sizeOf_17 (by decide) (fun _ => ?_) (fun c9 => absurd c9 (by decide))
  refine lv_iload_n hx hb dX8_sizeOf_26 rfl (lv_at hl 0 rfl) ?_
  refine lv_iconst (v := 4) hx hb dX8_sizeOf_27 (by decide) ?_
  refine lv_icmp_ne (tgt := 37) hx hb dX8_sizeOf_28 (by decide) (fun _ => ?_) (fun c9 => absurd c9 (by decide))
  refine lv_aload_n hx hb dX8_sizeOf_37 rfl (lv_at hl 1 rfl) ?_
  refine lv_iload_n hx hb dX8_sizeOf_38 rfl (lv_at hl 0 rfl) ?_
  refine lv_iconst (v := 2) hx hb dX8_sizeOf_39 (by decide) ?_
  refine lv_icmp_ne (tgt := 48) hx hb dX8_sizeOf_40 (by decide) (fun c9 => absurd (by decide) c9) (fun _ => ?_)
  refine lv_bipush (v := 12) hx hb dX8_sizeOf_43 (by decide) ?_
  refine lv_goto (tgt := 50) hx hb dX8_sizeOf_45 (by decide) ?_
  have k_3 := (t_X8_begins_12_0 l D cI cB cQ s.heap.size h sl zs ln ir tk tb tr fz na su le fu ap pp nm trf (by omega) (by omega) (by omega) (by omega))
  refine wc_v (WC := [(h, .inr (7, [.ref sl, .int na, .ref zs, .ref ln, .ref ir, .ref tk, .int su, .int le, .ref tb, .int fu, .int ap, .int pp, .ref tr, .int 0, .ref fz, .int nm])), (tr, .inl (cI, 16, .inl trf))]) (WR := [(sl, .inl (cI, 1653, .inl sf))]) (va_runV (As := [.int 12]) (rest := []) ⟨hx, hb, hml, hown, hts⟩ k_3 (cwV 1 hts gX8_sizeOf_X8_begins rfl rfl rfl (by decide +kernel) ⟨Nat.le_of_ble_eq_true rfl, Nat.le_of_ble_eq_true rfl⟩) (wp_V hP hK hD hN [0, 2] (by decide) rfl (ci := 7) rfl rfl) rfl rfl hl.1 rfl (lv_room (Nat.le_of_ble_eq_true rfl)) dX8_sizeOf_50 ⟨Nat.le_of_ble_eq_true rfl, Nat.le_of_ble_eq_true rfl⟩) hP hD hS hA [0, 2] [1] rfl rfl (by decide) (by decide) (fun u_3 H locs hw_3 hP hD hS => ?_)
  clear k_3
  have hP : va_P D kl [(sl, .inl (cI, 1653, .inl sf)), (h, .inr (7, [.ref sl, .int na, .ref zs, .ref ln, .ref ir, .ref tk, .int su, .int le, .ref tb, .int fu, .int ap, .int pp, .ref tr, .int 1, .ref fz, .int nm])), (tr, .inl (cI, 16, .inl (upd trf (0 : Int32).toNatClampNeg 12)))] H := hP
  have hD : va_D A [(sl, .inl (cI, 1653, .inl sf)), (h, .inr (7, [.ref sl, .int na, .ref zs, .ref ln, .ref ir, .ref tk, .int su, .int le, .ref tb, .int fu, .int ap, .int pp, .ref tr, .int 1, .ref fz, .int nm])), (tr, .inl (cI, 16, .inl (upd trf (0 : Int32).toNatClampNeg 12)))] := hD
  clear hw_3
  refine lv_iload_n hx hb dX8_sizeOf_53 rfl (lv_at hl 0 rfl) ?_
  refine lv_iconst (v := 2) hx hb dX8_sizeOf_54 (by decide) ?_
  refine lv_icmp_ne (tgt := 67) hx hb dX8_sizeOf_55 (by decide) (fun c9 => absurd (by decide) c9) (fun _ => ?_)
  refine lv_aload_n hx hb dX8_sizeOf_58 rfl (lv_at hl 1 rfl) ?_
  refine lv_iload_n hx hb dX8_sizeOf_59 rfl (lv_at hl 2 rfl) ?_
  have k_4 := (t_X8_size11_2_1 l D cI cB cQ H.size h sl zs ln ir tk tb tr fz na su le fu ap pp nm v sf (upd trf (0 : Int32).toNatClampNeg 12) v0 hsi (by omega) (by omega) (by omega) (by omega) (by omega) (h_kd))
  refine wc_i (WC := [(h, .inr (7, [.ref sl, .int na, .ref zs, .ref ln, .ref ir, .ref tk, .int su, .int le, .ref tb, .int fu, .int ap, .int pp, .ref tr, .int 1, .ref fz, .int nm])), (sl, .inl (cI, 1653, .inl sf)), (tr, .inl (cI, 16, .inl (upd trf (0 : Int32).toNatClampNeg 12)))]) (WR := []) (va_runV (As := [.int v]) (rest := []) ⟨hx, hb, hml, hown, hts⟩ k_4 (cwV 1 hts gX8_sizeOf_X8_size11 rfl rfl rfl (by decide +kernel) ⟨Nat.le_of_ble_eq_true rfl, Nat.le_of_ble_eq_true rfl⟩) (wp_V hP hK hD hN [1, 0, 2] (by decide) rfl (ci := 7) rfl rfl) rfl rfl hl.1 rfl (lv_room (Nat.le_of_ble_eq_true rfl)) dX8_sizeOf_60 ⟨Nat.le_of_ble_eq_true rfl, Nat.le_of_ble_eq_true rfl⟩) hP hD hS hA [1, 0, 2] [] rfl rfl (by decide) (by decide) (fun r_4 u_4 H locs hw_4 hP hD hS => ?_)
  clear k_4
  have hP : va_P D kl [(h, .inr (7, [.ref sl, .int na, .ref zs, .ref ln, .ref ir, .ref tk, .int su, .int le, .ref tb, .int fu, .int ap, .int pp, .ref tr, .int 6, .ref fz, .int nm])), (sl, .inl (cI, 1653, .inl sf)), (tr, .inl (cI, 16, .inl (upd (upd (upd (upd (upd (upd trf (0 : Int32).toNatClampNeg 12) (1 : Int32).toNatClampNeg 11) (2 : Int32).toNatClampNeg 10) (3 : Int32).toNatClampNeg 24) (4 : Int32).toNatClampNeg 21) (5 : Int32).toNatClampNeg 20)))] H := hP
  have hD : va_D A [(h, .inr (7, [.ref sl, .int na, .ref zs, .ref ln, .ref ir, .ref tk, .int su, .int le, .ref tb, .int fu, .int ap, .int pp, .ref tr, .int 6, .ref fz, .int nm])), (sl, .inl (cI, 1653, .inl sf)), (tr, .inl (cI, 16, .inl (upd (upd (upd (upd (upd (upd trf (0 : Int32).toNatClampNeg 12) (1 : Int32).toNatClampNeg 11) (2 : Int32).toNatClampNeg 10) (3 : Int32).toNatClampNeg 24) (4 : Int32).toNatClampNeg 21) (5 : Int32).toNatClampNeg 20)))] := hD
  clear hw_4
  refine lv_ineg hx hb dX8_sizeOf_63 ?_
  refine lv_topi (fun x_5 ex_5 => ?_)
  clear ex_5
  refine lv_goto (tgt := 74) hx hb dX8_sizeOf_64 (by decide) ?_
  exact wr_i (v := x_5) hx hb hr hlocks hS () (by trivial) (hP.sub [0, 1, 2] rfl) (hD.sub [0, 1, 2] (by decide) rfl) dX8_sizeOf_74
set_option maxHeartbeats 4000000 in
set_option maxRecDepth 100000 in
theorem t_X8_begins_24_0 (l : Launch) (D : va_G) (cI cB cQ : ClassId) (sz : Nat) (h : Nat) (sl : Nat) (zs : Nat) (ln : Nat) (ir : Nat) (tk : Nat) (tb : Nat) (tr : Nat) (fz : Nat) (na : Int32) (su : Int32) (le : Int32) (fu : Int32) (ap : Int32) (pp : Int32) (nm : Int32) (trf : Nat → Int32) (h_na : 0 ≤ na.toInt ∧ na.toInt ≤ 24) (h_le : 0 ≤ le.toInt ∧ le.toInt ≤ 120) (h_ap : 0 ≤ ap.toInt ∧ ap.toInt ≤ 120) (h_pp : 0 ≤ pp.toInt ∧ pp.toInt ≤ 120) : mv l yX8_begins wsX8_begins ({ frames := 0, cells := 0, slots := 0, locals := 0 }) D cI cB cQ [.ref h, .int 24] sz [(h, .inr (7, [.ref sl, .int na, .ref zs, .ref ln, .ref ir, .ref tk, .int su, .int le, .ref tb, .int fu, .int ap, .int pp, .ref tr, .int 0, .ref fz, .int nm])), (tr, .inl (cI, 16, .inl trf))] (fun (_u : Unit) => True) (fun _ => [(h, .inr (7, [.ref sl, .int na, .ref zs, .ref ln, .ref ir, .ref tk, .int su, .int le, .ref tb, .int fu, .int ap, .int pp, .ref tr, .int 1, .ref fz, .int nm])), (tr, .inl (cI, 16, .inl (upd trf (0 : Int32).toNatClampNeg 24)))]) 0 0 := by
  refine wm_v (cc := cX8_begins) (maxL := 2) (ret := none) (by decide) rfl (Nat.le_of_ble_eq_true rfl) ?_
  intro p e s m below meth c A ls hx hb hr hml hown hts hlocks hin hP hK hD hN hA hl hS
  have hown : s.vm.findClass RX8 = some m.cls := hown
  have hl : lv_has ls 2 [(0, .ref h), (1, .int 24)] := hl
  change W p l e ({ frames := 0, cells := 0, slots := 0, locals := 0 }) s m ([.ref h, .int 24] : List Value).toArray below meth c s.heap [] 0 0 (MQ below (va_Qv (fun (_u : Unit) => True) (fun u t => wb D A ((fun _ => [(h, .inr (7, [.ref sl, .int na, .ref zs, .ref ln, .ref ir, .ref tk, .int su, .int le, .ref tb, .int fu, .int ap, .int pp, .ref tr, .int 1, .ref fz, .int nm])), (tr, .inl (cI, 16, .inl (upd trf (0 : Int32).toNatClampNeg 24)))]) u) t) A) ([.ref h, .int 24] : List Value).toArray s 0 0 A) (F0 m 0 ls [])
  refine lv_aload_n hx hb dX8_begins_0 rfl (lv_at hl 0 rfl) ?_
  refine va_get (D := D) (ci := 7) (v := .int 0) (C := RX8) (T := TX8) (N := 16) hx hb hts (fun _ h => List.mem_cons_of_mem _ (List.mem_append_right _ h)) hown hK hP 0 rfl rfl 13 (by decide) (hts (.fieldLink RX8 208 "WinterWalkModel" "traced" "I") (List.mem_of_getElem? (i := 1) rfl)) (fun _ h9 => h9) rfl dX8_begins_1 ?_
  refine lv_bipush (v := 16) hx hb dX8_begins_4 (by decide) ?_
  refine lv_icmp_ge (tgt := 29) hx hb dX8_begins_6 (by decide) (fun c9 => absurd c9 (by decide)) (fun _ => ?_)
  refine lv_aload_n hx hb dX8_begins_9 rfl (lv_at hl 0 rfl) ?_
  refine va_get (D := D) (ci := 7) (v := .ref tr) (C := RX8) (T := TX8) (N := 16) hx hb hts (fun _ h => List.mem_cons_of_mem _ (List.mem_append_right _ h)) hown hK hP 0 rfl rfl 12 (by decide) (hts (.fieldLink RX8 29 "WinterWalkModel" "trace" "[I") (List.mem_of_getElem? (i := 2) rfl)) (fun _ h9 => h9) rfl dX8_begins_10 ?_
  refine lv_aload_n hx hb dX8_begins_13 rfl (lv_at hl 0 rfl) ?_
  refine va_get (D := D) (ci := 7) (v := .int 0) (C := RX8) (T := TX8) (N := 16) hx hb hts (fun _ h => List.mem_cons_of_mem _ (List.mem_append_right _ h)) hown hK hP 0 rfl rfl 13 (by decide) (hts (.fieldLink RX8 208 "WinterWalkModel" "traced" "I") (List.mem_of_getElem? (i := 1) rfl)) (fun _ h9 => h9) rfl dX8_begins_14 ?_
  refine lv_iload_n hx hb dX8_begins_17 rfl (lv_at hl 1 rfl) ?_
  refine va_iast hx hb hK hP hD hS 1 0 rfl rfl (zi_in (by decide) (by decide)) dX8_begins_18 (fun H locs hP hD hS => ?_)
  have hP : va_P D kl [(h, .inr (7, [.ref sl, .int na, .ref zs, .ref ln, .ref ir, .ref tk, .int su, .int le, .ref tb, .int fu, .int ap, .int pp, .ref tr, .int 0, .ref fz, .int nm])), (tr, .inl (cI, 16, .inl (upd trf (0 : Int32).toNatClampNeg 24)))] H := hP
  have hD : va_D A [(h, .inr (7, [.ref sl, .int na, .ref zs, .ref ln, .ref ir, .ref tk, .int su, .int le, .ref tb, .int fu, .int ap, .int pp, .ref tr, .int 0, .ref fz, .int nm])), (tr, .inl (cI, 16, .inl (upd trf (0 : Int32).toNatClampNeg 24)))] := hD
  refine lv_aload_n hx hb dX8_begins_19 rfl (lv_at hl 0 rfl) ?_
  refine lv_dup hx hb dX8_begins_20 rfl ?_
  refine va_get (D := D) (ci := 7) (v := .int 0) (C := RX8) (T := TX8) (N := 16) hx hb hts (fun _ h => List.mem_cons_of_mem _ (List.mem_append_right _ h)) hown hK hP 0 rfl rfl 13 (by decide) (hts (.fieldLink RX8 208 "WinterWalkModel" "traced" "I") (List.mem_of_getElem? (i := 1) rfl)) (fun _ h9 => h9) rfl dX8_begins_21 ?_
  refine lv_iconst (v := 1) hx hb dX8_begins_24 (by decide) ?_
  refine lv_iadd hx hb dX8_begins_25 ?_
  refine lv_topi (fun x_1 ex_1 => ?_)
  obtain rfl : x_1 = 1 := ex_1.trans (by decide)
  refine va_put (D := D) (ci := 7) (v := .int 1) (ty := .int) (C := RX8) (T := TX8) (N := 16) hx hb hts (fun _ h => List.mem_cons_of_mem _ (List.mem_append_right _ h)) tyX8 tyX8_ok nmX8 hown hK hP hD hS 0 rfl rfl 13 (by decide) (hts (.fieldLink RX8 208 "WinterWalkModel" "traced" "I") (List.mem_of_getElem? (i := 1) rfl)) (fun _ h9 => h9) rfl (by decide +kernel) rfl rfl (Nat.le_of_ble_eq_true rfl) dX8_begins_26 (fun H locs hP hD hS => ?_)
  have hP : va_P D kl [(h, .inr (7, [.ref sl, .int na, .ref zs, .ref ln, .ref ir, .ref tk, .int su, .int le, .ref tb, .int fu, .int ap, .int pp, .ref tr, .int 1, .ref fz, .int nm])), (tr, .inl (cI, 16, .inl (upd trf (0 : Int32).toNatClampNeg 24)))] H := hP
  have hD : va_D A [(h, .inr (7, [.ref sl, .int na, .ref zs, .ref ln, .ref ir, .ref tk, .int su, .int le, .ref tb, .int fu, .int ap, .int pp, .ref tr, .int 1, .ref fz, .int nm])), (tr, .inl (cI, 16, .inl (upd trf (0 : Int32).toNatClampNeg 24)))] := hD
  exact wr_v hx hb hr hlocks hS () (by trivial) (hP.sub [0, 1] rfl) (hD.sub [0, 1] (by decide) rfl) dX8_begins_29
set_option maxHeartbeats 4000000 in
set_option maxRecDepth 100000 in
theorem t_X8_begins_21_1 (l : Launch) (D : va_G) (cI cB cQ : ClassId) (sz : Nat) (h : Nat) (sl : Nat) (zs : Nat) (ln : Nat) (ir : Nat) (tk : Nat) (tb : Nat) (tr : Nat) (fz : Nat) (na : Int32) (su : Int32) (le : Int32) (fu : Int32) (ap : Int32) (pp : Int32) (nm : Int32) (trf : Nat → Int32) (h_na : 0 ≤ na.toInt ∧ na.toInt ≤ 24) (h_le : 0 ≤ le.toInt ∧ le.toInt ≤ 120) (h_ap : 0 ≤ ap.toInt ∧ ap.toInt ≤ 120) (h_pp : 0 ≤ pp.toInt ∧ pp.toInt ≤ 120) : mv l yX8_begins wsX8_begins ({ frames := 0, cells := 0, slots := 0, locals := 0 }) D cI cB cQ [.ref h, .int 21] sz [(h, .inr (7, [.ref sl, .int na, .ref zs, .ref ln, .ref ir, .ref tk, .int su, .int le, .ref tb, .int fu, .int ap, .int pp, .ref tr, .int 1, .ref fz, .int nm])), (tr, .inl (cI, 16, .inl trf))] (fun (_u : Unit) => True) (fun _ => [(h, .inr (7, [.ref sl, .int na, .ref zs, .ref ln, .ref ir, .ref tk, .int su, .int le, .ref tb, .int fu, .int ap, .int pp, .ref tr, .int 2, .ref fz, .int nm])), (tr, .inl (cI, 16, .inl (upd trf (1 : Int32).toNatClampNeg 21)))]) 0 0 := by
  refine wm_v (cc := cX8_begins) (maxL := 2) (ret := none) (by decide) rfl (Nat.le_of_ble_eq_true rfl) ?_
  intro p e s m below meth c A ls hx hb hr hml hown hts hlocks hin hP hK hD hN hA hl hS
  have hown : s.vm.findClass RX8 = some m.cls := hown
  have hl : lv_has ls 2 [(0, .ref h), (1, .int 21)] := hl
  change W p l e ({ frames := 0, cells := 0, slots := 0, locals := 0 }) s m ([.ref h, .int 21] : List Value).toArray below meth c s.heap [] 0 0 (MQ below (va_Qv (fun (_u : Unit) => True) (fun u t => wb D A ((fun _ => [(h, .inr (7, [.ref sl, .int na, .ref zs, .ref ln, .ref ir, .ref tk, .int su, .int le, .ref tb, .int fu, .int ap, .int pp, .ref tr, .int 2, .ref fz, .int nm])), (tr, .inl (cI, 16, .inl (upd trf (1 : Int32).toNatClampNeg 21)))]) u) t) A) ([.ref h, .int 21] : List Value).toArray s 0 0 A) (F0 m 0 ls [])
  refine lv_aload_n hx hb dX8_begins_0 rfl (lv_at hl 0 rfl) ?_
  refine va_get (D := D) (ci := 7) (v := .int 1) (C := RX8) (T := TX8) (N := 16) hx hb hts (fun _ h => List.mem_cons_of_mem _ (List.mem_append_right _ h)) hown hK hP 0 rfl rfl 13 (by decide) (hts (.fieldLink RX8 208 "WinterWalkModel" "traced" "I") (List.mem_of_getElem? (i := 1) rfl)) (fun _ h9 => h9) rfl dX8_begins_1 ?_
  refine lv_bipush (v := 16) hx hb dX8_begins_4 (by decide) ?_
  refine lv_icmp_ge (tgt := 29) hx hb dX8_begins_6 (by decide) (fun c9 => absurd c9 (by decide)) (fun _ => ?_)
  refine lv_aload_n hx hb dX8_begins_9 rfl (lv_at hl 0 rfl) ?_
  refine va_get (D := D) (ci := 7) (v := .ref tr) (C := RX8) (T := TX8) (N := 16) hx hb hts (fun _ h => List.mem_cons_of_mem _ (List.mem_append_right _ h)) hown hK hP 0 rfl rfl 12 (by decide) (hts (.fieldLink RX8 29 "WinterWalkModel" "trace" "[I") (List.mem_of_getElem? (i := 2) rfl)) (fun _ h9 => h9) rfl dX8_begins_10 ?_
  refine lv_aload_n hx hb dX8_begins_13 rfl (lv_at hl 0 rfl) ?_
  refine va_get (D := D) (ci := 7) (v := .int 1) (C := RX8) (T := TX8) (N := 16) hx hb hts (fun _ h => List.mem_cons_of_mem _ (List.mem_append_right _ h)) hown hK hP 0 rfl rfl 13 (by decide) (hts (.fieldLink RX8 208 "WinterWalkModel" "traced" "I") (List.mem_of_getElem? (i := 1) rfl)) (fun _ h9 => h9) rfl dX8_begins_14 ?_
  refine lv_iload_n hx hb dX8_begins_17 rfl (lv_at hl 1 rfl) ?_
  refine va_iast hx hb hK hP hD hS 1 0 rfl rfl (zi_in (by decide) (by decide)) dX8_begins_18 (fun H locs hP hD hS => ?_)
  have hP : va_P D kl [(h, .inr (7, [.ref sl, .int na, .ref zs, .ref ln, .ref ir, .ref tk, .int su, .int le, .ref tb, .int fu, .int ap, .int pp, .ref tr, .int 1, .ref fz, .int nm])), (tr, .inl (cI, 16, .inl (upd trf (1 : Int32).toNatClampNeg 21)))] H := hP
  have hD : va_D A [(h, .inr (7, [.ref sl, .int na, .ref zs, .ref ln, .ref ir, .ref tk, .int su, .int le, .ref tb, .int fu, .int ap, .int pp, .ref tr, .int 1, .ref fz, .int nm])), (tr, .inl (cI, 16, .inl (upd trf (1 : Int32).toNatClampNeg 21)))] := hD
  refine lv_aload_n hx hb dX8_begins_19 rfl (lv_at hl 0 rfl) ?_
  refine lv_dup hx hb dX8_begins_20 rfl ?_
  refine va_get (D := D) (ci := 7) (v := .int 1) (C := RX8) (T := TX8) (N := 16) hx hb hts (fun _ h => List.mem_cons_of_mem _ (List.mem_append_right _ h)) hown hK hP 0 rfl rfl 13 (by decide) (hts (.fieldLink RX8 208 "WinterWalkModel" "traced" "I") (List.mem_of_getElem? (i := 1) rfl)) (fun _ h9 => h9) rfl dX8_begins_21 ?_
  refine lv_iconst (v := 1) hx hb dX8_begins_24 (by decide) ?_
  refine lv_iadd hx hb dX8_begins_25 ?_
  refine lv_topi (fun x_1 ex_1 => ?_)
  obtain rfl : x_1 = 2 := ex_1.trans (by decide)
  refine va_put (D := D) (ci := 7) (v := .int 2) (ty := .int) (C := RX8) (T := TX8) (N := 16) hx hb hts (fun _ h => List.mem_cons_of_mem _ (List.mem_append_right _ h)) tyX8 tyX8_ok nmX8 hown hK hP hD hS 0 rfl rfl 13 (by decide) (hts (.fieldLink RX8 208 "WinterWalkModel" "traced" "I") (List.mem_of_getElem? (i := 1) rfl)) (fun _ h9 => h9) rfl (by decide +kernel) rfl rfl (Nat.le_of_ble_eq_true rfl) dX8_begins_26 (fun H locs hP hD hS => ?_)
  have hP : va_P D kl [(h, .inr (7, [.ref sl, .int na, .ref zs, .ref ln, .ref ir, .ref tk, .int su, .int le, .ref tb, .int fu, .int ap, .int pp, .ref tr, .int 2, .ref fz, .int nm])), (tr, .inl (cI, 16, .inl (upd trf (1 : Int32).toNatClampNeg 21)))] H := hP
  have hD : va_D A [(h, .inr (7, [.ref sl, .int na, .ref zs, .ref ln, .ref ir, .ref tk, .int su, .int le, .ref tb, .int fu, .int ap, .int pp, .ref tr, .int 2, .ref fz, .int nm])), (tr, .inl (cI, 16, .inl (upd trf (1 : Int32).toNatClampNeg 21)))] := hD
  exact wr_v hx hb hr hlocks hS () (by trivial) (hP.sub [0, 1] rfl) (hD.sub [0, 1] (by decide) rfl) dX8_begins_29
set_option maxHeartbeats 4000000 in
set_option maxRecDepth 100000 in
theorem t_X8_begins_20_2 (l : Launch) (D : va_G) (cI cB cQ : ClassId) (sz : Nat) (h : Nat) (sl : Nat) (zs : Nat) (ln : Nat) (ir : Nat) (tk : Nat) (tb : Nat) (tr : Nat) (fz : Nat) (na : Int32) (su : Int32) (le : Int32) (fu : Int32) (ap : Int32) (pp : Int32) (nm : Int32) (trf : Nat → Int32) (h_na : 0 ≤ na.toInt ∧ na.toInt ≤ 24) (h_le : 0 ≤ le.toInt ∧ le.toInt ≤ 120) (h_ap : 0 ≤ ap.toInt ∧ ap.toInt ≤ 120) (h_pp : 0 ≤ pp.toInt ∧ pp.toInt ≤ 120) : mv l yX8_begins wsX8_begins ({ frames := 0, cells := 0, slots := 0, locals := 0 }) D cI cB cQ [.ref h, .int 20] sz [(h, .inr (7, [.ref sl, .int na, .ref zs, .ref ln, .ref ir, .ref tk, .int su, .int le, .ref tb, .int fu, .int ap, .int pp, .ref tr, .int 2, .ref fz, .int nm])), (tr, .inl (cI, 16, .inl trf))] (fun (_u : Unit) => True) (fun _ => [(h, .inr (7, [.ref sl, .int na, .ref zs, .ref ln, .ref ir, .ref tk, .int su, .int le, .ref tb, .int fu, .int ap, .int pp, .ref tr, .int 3, .ref fz, .int nm])), (tr, .inl (cI, 16, .inl (upd trf (2 : Int32).toNatClampNeg 20)))]) 0 0 := by
  refine wm_v (cc := cX8_begins) (maxL := 2) (ret := none) (by decide) rfl (Nat.le_of_ble_eq_true rfl) ?_
  intro p e s m below meth c A ls hx hb hr hml hown hts hlocks hin hP hK hD hN hA hl hS
  have hown : s.vm.findClass RX8 = some m.cls := hown
  have hl : lv_has ls 2 [(0, .ref h), (1, .int 20)] := hl
  change W p l e ({ frames := 0, cells := 0, slots := 0, locals := 0 }) s m ([.ref h, .int 20] : List Value).toArray below meth c s.heap [] 0 0 (MQ below (va_Qv (fun (_u : Unit) => True) (fun u t => wb D A ((fun _ => [(h, .inr (7, [.ref sl, .int na, .ref zs, .ref ln, .ref ir, .ref tk, .int su, .int le, .ref tb, .int fu, .int ap, .int pp, .ref tr, .int 3, .ref fz, .int nm])), (tr, .inl (cI, 16, .inl (upd trf (2 : Int32).toNatClampNeg 20)))]) u) t) A) ([.ref h, .int 20] : List Value).toArray s 0 0 A) (F0 m 0 ls [])
  refine lv_aload_n hx hb dX8_begins_0 rfl (lv_at hl 0 rfl) ?_
  refine va_get (D := D) (ci := 7) (v := .int 2) (C := RX8) (T := TX8) (N := 16) hx hb hts (fun _ h => List.mem_cons_of_mem _ (List.mem_append_right _ h)) hown hK hP 0 rfl rfl 13 (by decide) (hts (.fieldLink RX8 208 "WinterWalkModel" "traced" "I") (List.mem_of_getElem? (i := 1) rfl)) (fun _ h9 => h9) rfl dX8_begins_1 ?_
  refine lv_bipush (v := 16) hx hb dX8_begins_4 (by decide) ?_
  refine lv_icmp_ge (tgt := 29) hx hb dX8_begins_6 (by decide) (fun c9 => absurd c9 (by decide)) (fun _ => ?_)
  refine lv_aload_n hx hb dX8_begins_9 rfl (lv_at hl 0 rfl) ?_
  refine va_get (D := D) (ci := 7) (v := .ref tr) (C := RX8) (T := TX8) (N := 16) hx hb hts (fun _ h => List.mem_cons_of_mem _ (List.mem_append_right _ h)) hown hK hP 0 rfl rfl 12 (by decide) (hts (.fieldLink RX8 29 "WinterWalkModel" "trace" "[I") (List.mem_of_getElem? (i := 2) rfl)) (fun _ h9 => h9) rfl dX8_begins_10 ?_
  refine lv_aload_n hx hb dX8_begins_13 rfl (lv_at hl 0 rfl) ?_
  refine va_get (D := D) (ci := 7) (v := .int 2) (C := RX8) (T := TX8) (N := 16) hx hb hts (fun _ h => List.mem_cons_of_mem _ (List.mem_append_right _ h)) hown hK hP 0 rfl rfl 13 (by decide) (hts (.fieldLink RX8 208 "WinterWalkModel" "traced" "I") (List.mem_of_getElem? (i := 1) rfl)) (fun _ h9 => h9) rfl dX8_begins_14 ?_
  refine lv_iload_n hx hb dX8_begins_17 rfl (lv_at hl 1 rfl) ?_
  refine va_iast hx hb hK hP hD hS 1 0 rfl rfl (zi_in (by decide) (by decide)) dX8_begins_18 (fun H locs hP hD hS => ?_)
  have hP : va_P D kl [(h, .inr (7, [.ref sl, .int na, .ref zs, .ref ln, .ref ir, .ref tk, .int su, .int le, .ref tb, .int fu, .int ap, .int pp, .ref tr, .int 2, .ref fz, .int nm])), (tr, .inl (cI, 16, .inl (upd trf (2 : Int32).toNatClampNeg 20)))] H := hP
  have hD : va_D A [(h, .inr (7, [.ref sl, .int na, .ref zs, .ref ln, .ref ir, .ref tk, .int su, .int le, .ref tb, .int fu, .int ap, .int pp, .ref tr, .int 2, .ref fz, .int nm])), (tr, .inl (cI, 16, .inl (upd trf (2 : Int32).toNatClampNeg 20)))] := hD
  refine lv_aload_n hx hb dX8_begins_19 rfl (lv_at hl 0 rfl) ?_
  refine lv_dup hx hb dX8_begins_20 rfl ?_
  refine va_get (D := D) (ci := 7) (v := .int 2) (C := RX8) (T := TX8) (N := 16) hx hb hts (fun _ h => List.mem_cons_of_mem _ (List.mem_append_right _ h)) hown hK hP 0 rfl rfl 13 (by decide) (hts (.fieldLink RX8 208 "WinterWalkModel" "traced" "I") (List.mem_of_getElem? (i := 1) rfl)) (fun _ h9 => h9) rfl dX8_begins_21 ?_
  refine lv_iconst (v := 1) hx hb dX8_begins_24 (by decide) ?_
  refine lv_iadd hx hb dX8_begins_25 ?_
  refine lv_topi (fun x_1 ex_1 => ?_)
  obtain rfl : x_1 = 3 := ex_1.trans (by decide)
  refine va_put (D := D) (ci := 7) (v := .int 3) (ty := .int) (C := RX8) (T := TX8) (N := 16) hx hb hts (fun _ h => List.mem_cons_of_mem _ (List.mem_append_right _ h)) tyX8 tyX8_ok nmX8 hown hK hP hD hS 0 rfl rfl 13 (by decide) (hts (.fieldLink RX8 208 "WinterWalkModel" "traced" "I") (List.mem_of_getElem? (i := 1) rfl)) (fun _ h9 => h9) rfl (by decide +kernel) rfl rfl (Nat.le_of_ble_eq_true rfl) dX8_begins_26 (fun H locs hP hD hS => ?_)
  have hP : va_P D kl [(h, .inr (7, [.ref sl, .int na, .ref zs, .ref ln, .ref ir, .ref tk, .int su, .int le, .ref tb, .int fu, .int ap, .int pp, .ref tr, .int 3, .ref fz, .int nm])), (tr, .inl (cI, 16, .inl (upd trf (2 : Int32).toNatClampNeg 20)))] H := hP
  have hD : va_D A [(h, .inr (7, [.ref sl, .int na, .ref zs, .ref ln, .ref ir, .ref tk, .int su, .int le, .ref tb, .int fu, .int ap, .int pp, .ref tr, .int 3, .ref fz, .int nm])), (tr, .inl (cI, 16, .inl (upd trf (2 : Int32).toNatClampNeg 20)))] := hD
  exact wr_v hx hb hr hlocks hS () (by trivial) (hP.sub [0, 1] rfl) (hD.sub [0, 1] (by decide) rfl) dX8_begins_29
set_option maxHeartbeats 4000000 in
set_option maxRecDepth 100000 in
theorem t_X8_mark20_0_2 (l : Launch) (D : va_G) (cI cB cQ : ClassId) (sz : Nat) (h : Nat) (sl : Nat) (zs : Nat) (ln : Nat) (ir : Nat) (tk : Nat) (tb : Nat) (tr : Nat) (fz : Nat) (na : Int32) (su : Int32) (le : Int32) (fu : Int32) (ap : Int32) (pp : Int32) (nm : Int32) (v : Int32) (sf : Nat → Int32) (trf : Nat → Int32) (v0 : Int) (hsi : SI sf v0) (h_na : 0 ≤ na.toInt ∧ na.toInt ≤ 24) (h_le : 0 ≤ le.toInt ∧ le.toInt ≤ 120) (h_ap : 0 ≤ ap.toInt ∧ ap.toInt ≤ 120) (h_pp : 0 ≤ pp.toInt ∧ pp.toInt ≤ 120) (h_v : 0 ≤ v.toInt ∧ v.toInt ≤ 2) : mi l yX8_mark20 wsX8_mark20 ({ frames := 1, cells := 0, slots := 0, locals := 21 }) D cI cB cQ [.ref h, .int v] sz [(h, .inr (7, [.ref sl, .int na, .ref zs, .ref ln, .ref ir, .ref tk, .int su, .int le, .ref tb, .int fu, .int ap, .int pp, .ref tr, .int 2, .ref fz, .int nm])), (sl, .inl (cI, 1653, .inl sf)), (tr, .inl (cI, 16, .inl trf))] (fun (r : Int32) (_u : Unit) => True) (fun _ => [(h, .inr (7, [.ref sl, .int na, .ref zs, .ref ln, .ref ir, .ref tk, .int su, .int le, .ref tb, .int fu, .int ap, .int pp, .ref tr, .int 3, .ref fz, .int nm])), (sl, .inl (cI, 1653, .inl sf)), (tr, .inl (cI, 16, .inl (upd trf (2 : Int32).toNatClampNeg 20)))]) 0 0 := by
  refine wm_i (cc := cX8_mark20) (maxL := 2) (ret := (some .int)) (by decide) rfl (Nat.le_of_ble_eq_true rfl) ?_
  intro p e s m below meth c A ls hx hb hr hml hown hts hlocks hin hP hK hD hN hA hl hS
  have hown : s.vm.findClass RX8 = some m.cls := hown
  have hl : lv_has ls 2 [(0, .ref h), (1, .int v)] := hl
  change W p l e ({ frames := 1, cells := 0, slots := 0, locals := 21 }) s m ([.ref h, .int v] : List Value).toArray below meth c s.heap [] 0 0 (MQ below (va_Qi (fun (r : Int32) (_u : Unit) => True) (fun u t => wb D A ((fun _ => [(h, .inr (7, [.ref sl, .int na, .ref zs, .ref ln, .ref ir, .ref tk, .int su, .int le, .ref tb, .int fu, .int ap, .int pp, .ref tr, .int 3, .ref fz, .int nm])), (sl, .inl (cI, 1653, .inl sf)), (tr, .inl (cI, 16, .inl (upd trf (2 : Int32).toNatClampNeg 20)))]) u) t) A) ([.ref h, .int v] : List Value).toArray s 0 0 A) (F0 m 0 ls [])
  refine lv_aload_n hx hb dX8_mark20_0 rfl (lv_at hl 0 rfl) ?_
  refine lv_bipush (v := 20) hx hb dX8_mark20_1 (by decide) ?_
  have k_1 := (t_X8_begins_20_2 l D cI cB cQ s.heap.size h sl zs ln ir tk tb tr fz na su le fu ap pp nm trf (by omega) (by omega) (by omega) (by omega))
  refine wc_v (WC := [(h, .inr (7, [.ref sl, .int na, .ref zs, .ref ln, .ref ir, .ref tk, .int su, .int le, .ref tb, .int fu, .int ap, .int pp, .ref tr, .int 2, .ref fz, .int nm])), (tr, .inl (cI, 16, .inl trf))]) (WR := [(sl, .inl (cI, 1653, .inl sf))]) (va_runV (As := [.int 20]) (rest := []) ⟨hx, hb, hml, hown, hts⟩ k_1 (cwV 1 hts gX8_mark20_X8_begins rfl rfl rfl (by decide +kernel) ⟨Nat.le_of_ble_eq_true rfl, Nat.le_of_ble_eq_true rfl⟩) (wp_V hP hK hD hN [0, 2] (by decide) rfl (ci := 7) rfl rfl) rfl rfl hl.1 rfl (lv_room (Nat.le_of_ble_eq_true rfl)) dX8_mark20_3 ⟨Nat.le_of_ble_eq_true rfl, Nat.le_of_ble_eq_true rfl⟩) hP hD hS hA [0, 2] [1] rfl rfl (by decide) (by decide) (fun u_1 H locs hw_1 hP hD hS => ?_)
  clear k_1
  have hP : va_P D kl [(sl, .inl (cI, 1653, .inl sf)), (h, .inr (7, [.ref sl, .int na, .ref zs, .ref ln, .ref ir, .ref tk, .int su, .int le, .ref tb, .int fu, .int ap, .int pp, .ref tr, .int 3, .ref fz, .int nm])), (tr, .inl (cI, 16, .inl (upd trf (2 : Int32).toNatClampNeg 20)))] H := hP
  have hD : va_D A [(sl, .inl (cI, 1653, .inl sf)), (h, .inr (7, [.ref sl, .int na, .ref zs, .ref ln, .ref ir, .ref tk, .int su, .int le, .ref tb, .int fu, .int ap, .int pp, .ref tr, .int 3, .ref fz, .int nm])), (tr, .inl (cI, 16, .inl (upd trf (2 : Int32).toNatClampNeg 20)))] := hD
  clear hw_1
  refine lv_iload_n hx hb dX8_mark20_6 rfl (lv_at hl 1 rfl) ?_
  exact wr_i (v := v) hx hb hr hlocks hS () (by trivial) (hP.sub [1, 0, 2] rfl) (hD.sub [1, 0, 2] (by decide) rfl) dX8_mark20_7
set_option maxHeartbeats 4000000 in
set_option maxRecDepth 100000 in
theorem t_X8_mark21_0_1 (l : Launch) (D : va_G) (cI cB cQ : ClassId) (sz : Nat) (h : Nat) (sl : Nat) (zs : Nat) (ln : Nat) (ir : Nat) (tk : Nat) (tb : Nat) (tr : Nat) (fz : Nat) (na : Int32) (su : Int32) (le : Int32) (fu : Int32) (ap : Int32) (pp : Int32) (nm : Int32) (v : Int32) (sf : Nat → Int32) (trf : Nat → Int32) (v0 : Int) (hsi : SI sf v0) (h_na : 0 ≤ na.toInt ∧ na.toInt ≤ 24) (h_le : 0 ≤ le.toInt ∧ le.toInt ≤ 120) (h_ap : 0 ≤ ap.toInt ∧ ap.toInt ≤ 120) (h_pp : 0 ≤ pp.toInt ∧ pp.toInt ≤ 120) (h_v : 0 ≤ v.toInt ∧ v.toInt ≤ 2) : mi l yX8_mark21 wsX8_mark21 ({ frames := 2, cells := 0, slots := 0, locals := 42 }) D cI cB cQ [.ref h, .int v] sz [(h, .inr (7, [.ref sl, .int na, .ref zs, .ref ln, .ref ir, .ref tk, .int su, .int le, .ref tb, .int fu, .int ap, .int pp, .ref tr, .int 1, .ref fz, .int nm])), (sl, .inl (cI, 1653, .inl sf)), (tr, .inl (cI, 16, .inl trf))] (fun (r : Int32) (_u : Unit) => True) (fun _ => [(h, .inr (7, [.ref sl, .int na, .ref zs, .ref ln, .ref ir, .ref tk, .int su, .int le, .ref tb, .int fu, .int ap, .int pp, .ref tr, .int 3, .ref fz, .int nm])), (sl, .inl (cI, 1653, .inl sf)), (tr, .inl (cI, 16, .inl (upd (upd trf (1 : Int32).toNatClampNeg 21) (2 : Int32).toNatClampNeg 20)))]) 0 0 := by
  refine wm_i (cc := cX8_mark21) (maxL := 3) (ret := (some .int)) (by decide) rfl (Nat.le_of_ble_eq_true rfl) ?_
  intro p e s m below meth c A ls hx hb hr hml hown hts hlocks hin hP hK hD hN hA hl hS
  have hown : s.vm.findClass RX8 = some m.cls := hown
  have hl : lv_has ls 3 [(0, .ref h), (1, .int v)] := hl
  change W p l e ({ frames := 2, cells := 0, slots := 0, locals := 42 }) s m ([.ref h, .int v] : List Value).toArray below meth c s.heap [] 0 0 (MQ below (va_Qi (fun (r : Int32) (_u : Unit) => True) (fun u t => wb D A ((fun _ => [(h, .inr (7, [.ref sl, .int na, .ref zs, .ref ln, .ref ir, .ref tk, .int su, .int le, .ref tb, .int fu, .int ap, .int pp, .ref tr, .int 3, .ref fz, .int nm])), (sl, .inl (cI, 1653, .inl sf)), (tr, .inl (cI, 16, .inl (upd (upd trf (1 : Int32).toNatClampNeg 21) (2 : Int32).toNatClampNeg 20)))]) u) t) A) ([.ref h, .int v] : List Value).toArray s 0 0 A) (F0 m 0 ls [])
  refine lv_aload_n hx hb dX8_mark21_0 rfl (lv_at hl 0 rfl) ?_
  refine lv_bipush (v := 21) hx hb dX8_mark21_1 (by decide) ?_
  have k_1 := (t_X8_begins_21_1 l D cI cB cQ s.heap.size h sl zs ln ir tk tb tr fz na su le fu ap pp nm trf (by omega) (by omega) (by omega) (by omega))
  refine wc_v (WC := [(h, .inr (7, [.ref sl, .int na, .ref zs, .ref ln, .ref ir, .ref tk, .int su, .int le, .ref tb, .int fu, .int ap, .int pp, .ref tr, .int 1, .ref fz, .int nm])), (tr, .inl (cI, 16, .inl trf))]) (WR := [(sl, .inl (cI, 1653, .inl sf))]) (va_runV (As := [.int 21]) (rest := []) ⟨hx, hb, hml, hown, hts⟩ k_1 (cwV 1 hts gX8_mark21_X8_begins rfl rfl rfl (by decide +kernel) ⟨Nat.le_of_ble_eq_true rfl, Nat.le_of_ble_eq_true rfl⟩) (wp_V hP hK hD hN [0, 2] (by decide) rfl (ci := 7) rfl rfl) rfl rfl hl.1 rfl (lv_room (Nat.le_of_ble_eq_true rfl)) dX8_mark21_3 ⟨Nat.le_of_ble_eq_true rfl, Nat.le_of_ble_eq_true rfl⟩) hP hD hS hA [0, 2] [1] rfl rfl (by decide) (by decide) (fun u_1 H locs hw_1 hP hD hS => ?_)
  clear k_1
  have hP : va_P D kl [(sl, .inl (cI, 1653, .inl sf)), (h, .inr (7, [.ref sl, .int na, .ref zs, .ref ln, .ref ir, .ref tk, .int su, .int le, .ref tb, .int fu, .int ap, .int pp, .ref tr, .int 2, .ref fz, .int nm])), (tr, .inl (cI, 16, .inl (upd trf (1 : Int32).toNatClampNeg 21)))] H := hP
  have hD : va_D A [(sl, .inl (cI, 1653, .inl sf)), (h, .inr (7, [.ref sl, .int na, .ref zs, .ref ln, .ref ir, .ref tk, .int su, .int le, .ref tb, .int fu, .int ap, .int pp, .ref tr, .int 2, .ref fz, .int nm])), (tr, .inl (cI, 16, .inl (upd trf (1 : Int32).toNatClampNeg 21)))] := hD
  clear hw_1
  refine lv_aload_n hx hb dX8_mark21_6 rfl (lv_at hl 0 rfl) ?_
  refine lv_iload_n hx hb dX8_mark21_7 rfl (lv_at hl 1 rfl) ?_
  have k_2 := (t_X8_mark20_0_2 l D cI cB cQ H.size h sl zs ln ir tk tb tr fz na su le fu ap pp nm v sf (upd trf (1 : Int32).toNatClampNeg 21) v0 hsi (by omega) (by omega) (by omega) (by omega) (by omega))
  refine wc_i (WC := [(h, .inr (7, [.ref sl, .int na, .ref zs, .ref ln, .ref ir, .ref tk, .int su, .int le, .ref tb, .int fu, .int ap, .int pp, .ref tr, .int 2, .ref fz, .int nm])), (sl, .inl (cI, 1653, .inl sf)), (tr, .inl (cI, 16, .inl (upd trf (1 : Int32).toNatClampNeg 21)))]) (WR := []) (va_runV (As := [.int v]) (rest := []) ⟨hx, hb, hml, hown, hts⟩ k_2 (cwV 1 hts gX8_mark21_X8_mark20 rfl rfl rfl (by decide +kernel) ⟨Nat.le_of_ble_eq_true rfl, Nat.le_of_ble_eq_true rfl⟩) (wp_V hP hK hD hN [1, 0, 2] (by decide) rfl (ci := 7) rfl rfl) rfl rfl hl.1 rfl (lv_room (Nat.le_of_ble_eq_true rfl)) dX8_mark21_8 ⟨Nat.le_of_ble_eq_true rfl, Nat.le_of_ble_eq_true rfl⟩) hP hD hS hA [1, 0, 2] [] rfl rfl (by decide) (by decide) (fun r_2 u_2 H locs hw_2 hP hD hS => ?_)
  clear k_2
  have hP : va_P D kl [(h, .inr (7, [.ref sl, .int na, .ref zs, .ref ln, .ref ir, .ref tk, .int su, .int le, .ref tb, .int fu, .int ap, .int pp, .ref tr, .int 3, .ref fz, .int nm])), (sl, .inl (cI, 1653, .inl sf)), (tr, .inl (cI, 16, .inl (upd (upd trf (1 : Int32).toNatClampNeg 21) (2 : Int32).toNatClampNeg 20)))] H := hP
  have hD : va_D A [(h, .inr (7, [.ref sl, .int na, .ref zs, .ref ln, .ref ir, .ref tk, .int su, .int le, .ref tb, .int fu, .int ap, .int pp, .ref tr, .int 3, .ref fz, .int nm])), (sl, .inl (cI, 1653, .inl sf)), (tr, .inl (cI, 16, .inl (upd (upd trf (1 : Int32).toNatClampNeg 21) (2 : Int32).toNatClampNeg 20)))] := hD
  clear hw_2
  refine lv_istore_n (lv' := [(2, .int r_2), (0, .ref h), (1, .int v)]) hx hb dX8_mark21_11 rfl hl (by decide) rfl (fun ls hl => ?_)
  refine lv_iload_n hx hb dX8_mark21_12 rfl (lv_at hl 0 rfl) ?_
  refine lv_aload_n hx hb dX8_mark21_13 rfl (lv_at hl 1 rfl) ?_
  refine va_get (D := D) (ci := 7) (v := .ref sl) (C := RX8) (T := TX8) (N := 16) hx hb hts (fun _ h => List.mem_cons_of_mem _ (List.mem_append_right _ h)) hown hK hP 0 rfl rfl 0 (by decide) (hts (.fieldLink RX8 7 "WinterWalkModel" "slot" "[I") (List.mem_of_getElem? (i := 1) rfl)) (fun _ h9 => h9) rfl dX8_mark21_14 ?_
  refine lv_bipush (v := 23) hx hb dX8_mark21_17 (by decide) ?_
  refine lv_aload_n hx hb dX8_mark21_19 rfl (lv_at hl 1 rfl) ?_
  refine va_get (D := D) (ci := 7) (v := .ref sl) (C := RX8) (T := TX8) (N := 16) hx hb hts (fun _ h => List.mem_cons_of_mem _ (List.mem_append_right _ h)) hown hK hP 0 rfl rfl 0 (by decide) (hts (.fieldLink RX8 7 "WinterWalkModel" "slot" "[I") (List.mem_of_getElem? (i := 1) rfl)) (fun _ h9 => h9) rfl dX8_mark21_20 ?_
  refine lv_bipush (v := 48) hx hb dX8_mark21_23 (by decide) ?_
  refine lv_iload_n hx hb dX8_mark21_25 rfl (lv_at hl 2 rfl) ?_
  refine lv_iadd hx hb dX8_mark21_26 ?_
  refine lv_topi (fun x_3 ex_3 => ?_)
  have e_3 : x_3.toInt = 48 + v.toInt := by rw [ex_3]; exact zi_add (by decide) (rfl) (by omega) (by omega)
  clear ex_3
  refine va_iald hx hb hK hP 1 0 rfl rfl (zi_in (by omega) (by omega)) dX8_mark21_27 ?_
  refine lv_topi (fun x_4 ex_4 => ?_)
  have f_4 : 0 ≤ x_4.toInt ∧ x_4.toInt ≤ 7 := by rw [ex_4]; exact si_a hsi (s := 0) (k := v.toInt) (by omega) (by omega) (by omega)
  clear ex_4
  refine lv_iadd hx hb dX8_mark21_28 ?_
  refine lv_topi (fun x_5 ex_5 => ?_)
  have e_5 : x_5.toInt = 23 + x_4.toInt := by rw [ex_5]; exact zi_add (by decide) (rfl) (by omega) (by omega)
  clear ex_5
  refine va_iald hx hb hK hP 1 0 rfl rfl (zi_in (by omega) (by omega)) dX8_mark21_29 ?_
  refine lv_topi (fun x_6 ex_6 => ?_)
  clear ex_6
  refine lv_iadd hx hb dX8_mark21_30 ?_
  refine lv_topi (fun x_7 ex_7 => ?_)
  clear ex_7
  exact wr_i (v := x_7) hx hb hr hlocks hS () (by trivial) (hP.sub [0, 1, 2] rfl) (hD.sub [0, 1, 2] (by decide) rfl) dX8_mark21_31
set_option maxHeartbeats 4000000 in
set_option maxRecDepth 100000 in
theorem t_X8_markOld_2_0 (l : Launch) (D : va_G) (cI cB cQ : ClassId) (sz : Nat) (h : Nat) (sl : Nat) (zs : Nat) (ln : Nat) (ir : Nat) (tk : Nat) (tb : Nat) (tr : Nat) (fz : Nat) (na : Int32) (su : Int32) (le : Int32) (fu : Int32) (ap : Int32) (pp : Int32) (nm : Int32) (v : Int32) (sf : Nat → Int32) (trf : Nat → Int32) (v0 : Int) (hsi : SI sf v0) (h_na : 0 ≤ na.toInt ∧ na.toInt ≤ 24) (h_le : 0 ≤ le.toInt ∧ le.toInt ≤ 120) (h_ap : 0 ≤ ap.toInt ∧ ap.toInt ≤ 120) (h_pp : 0 ≤ pp.toInt ∧ pp.toInt ≤ 120) (h_v : 0 ≤ v.toInt ∧ v.toInt ≤ 2) (h_kd : sf (20 + v.toNatClampNeg) = 2) : mi l yX8_markOld wsX8_markOld ({ frames := 3, cells := 0, slots := 0, locals := 64 }) D cI cB cQ [.ref h, .int v] sz [(h, .inr (7, [.ref sl, .int na, .ref zs, .ref ln, .ref ir, .ref tk, .int su, .int le, .ref tb, .int fu, .int ap, .int pp, .ref tr, .int 0, .ref fz, .int nm])), (sl, .inl (cI, 1653, .inl sf)), (tr, .inl (cI, 16, .inl trf))] (fun (r : Int32) (_u : Unit) => True) (fun _ => [(h, .inr (7, [.ref sl, .int na, .ref zs, .ref ln, .ref ir, .ref tk, .int su, .int le, .ref tb, .int fu, .int ap, .int pp, .ref tr, .int 3, .ref fz, .int nm])), (sl, .inl (cI, 1653, .inl sf)), (tr, .inl (cI, 16, .inl (upd (upd (upd trf (0 : Int32).toNatClampNeg 24) (1 : Int32).toNatClampNeg 21) (2 : Int32).toNatClampNeg 20)))]) 0 0 := by
  refine wm_i (cc := cX8_markOld) (maxL := 4) (ret := (some .int)) (by decide) rfl (Nat.le_of_ble_eq_true rfl) ?_
  intro p e s m below meth c A ls hx hb hr hml hown hts hlocks hin hP hK hD hN hA hl hS
  have hown : s.vm.findClass RX8 = some m.cls := hown
  have hl : lv_has ls 4 [(0, .ref h), (1, .int v)] := hl
  change W p l e ({ frames := 3, cells := 0, slots := 0, locals := 64 }) s m ([.ref h, .int v] : List Value).toArray below meth c s.heap [] 0 0 (MQ below (va_Qi (fun (r : Int32) (_u : Unit) => True) (fun u t => wb D A ((fun _ => [(h, .inr (7, [.ref sl, .int na, .ref zs, .ref ln, .ref ir, .ref tk, .int su, .int le, .ref tb, .int fu, .int ap, .int pp, .ref tr, .int 3, .ref fz, .int nm])), (sl, .inl (cI, 1653, .inl sf)), (tr, .inl (cI, 16, .inl (upd (upd (upd trf (0 : Int32).toNatClampNeg 24) (1 : Int32).toNatClampNeg 21) (2 : Int32).toNatClampNeg 20)))]) u) t) A) ([.ref h, .int v] : List Value).toArray s 0 0 A) (F0 m 0 ls [])
  refine lv_aload_n hx hb dX8_markOld_0 rfl (lv_at hl 0 rfl) ?_
  refine va_get (D := D) (ci := 7) (v := .ref sl) (C := RX8) (T := TX8) (N := 16) hx hb hts (fun _ h => List.mem_cons_of_mem _ (List.mem_append_right _ h)) hown hK hP 0 rfl rfl 0 (by decide) (hts (.fieldLink RX8 7 "WinterWalkModel" "slot" "[I") (List.mem_of_getElem? (i := 1) rfl)) (fun _ h9 => h9) rfl dX8_markOld_1 ?_
  refine lv_bipush (v := 20) hx hb dX8_markOld_4 (by decide) ?_
  refine lv_iload_n hx hb dX8_markOld_6 rfl (lv_at hl 1 rfl) ?_
  refine lv_iadd hx hb dX8_markOld_7 ?_
  refine lv_topi (fun x_1 ex_1 => ?_)
  have e_1 : x_1.toInt = 20 + v.toInt := by rw [ex_1]; exact zi_add (by decide) (rfl) (by omega) (by omega)
  clear ex_1
  refine va_iald hx hb hK hP 1 0 rfl rfl (zi_in (by omega) (by omega)) dX8_markOld_8 ?_
  refine lv_topi (fun x_2 ex_2 => ?_)
  obtain rfl : x_2 = 2 := ex_2.trans ((congrArg sf (show (x_1 : Int32).toNatClampNeg = 20 + v.toNatClampNeg from by have h9 := zi_cn (x := x_1) (by omega); have h8 := zi_cn (x := v) (by omega); omega)).trans h_kd)
  refine lv_istore_n (lv' := [(2, .int 2), (0, .ref h), (1, .int v)]) hx hb dX8_markOld_9 rfl hl (by decide) rfl (fun ls hl => ?_)
  refine lv_iload_n hx hb dX8_markOld_10 rfl (lv_at hl 0 rfl) ?_
  refine lv_iconst (v := 1) hx hb dX8_markOld_11 (by decide) ?_
  refine lv_icmp_ne (tgt := 21) hx hb dX8_markOld_12 (by decide) (fun _ => ?_) (fun c9 => absurd c9 (by decide))
  refine lv_aload_n hx hb dX8_markOld_21 rfl (lv_at hl 1 rfl) ?_
  refine lv_iload_n hx hb dX8_markOld_22 rfl (lv_at hl 0 rfl) ?_
  refine lv_iconst (v := 3) hx hb dX8_markOld_23 (by decide) ?_
  refine lv_icmp_ne (tgt := 32) hx hb dX8_markOld_24 (by decide) (fun _ => ?_) (fun c9 => absurd c9 (by decide))
  refine lv_bipush (v := 24) hx hb dX8_markOld_32 (by decide) ?_
  have k_3 := (t_X8_begins_24_0 l D cI cB cQ s.heap.size h sl zs ln ir tk tb tr fz na su le fu ap pp nm trf (by omega) (by omega) (by omega) (by omega))
  refine wc_v (WC := [(h, .inr (7, [.ref sl, .int na, .ref zs, .ref ln, .ref ir, .ref tk, .int su, .int le, .ref tb, .int fu, .int ap, .int pp, .ref tr, .int 0, .ref fz, .int nm])), (tr, .inl (cI, 16, .inl trf))]) (WR := [(sl, .inl (cI, 1653, .inl sf))]) (va_runV (As := [.int 24]) (rest := []) ⟨hx, hb, hml, hown, hts⟩ k_3 (cwV 1 hts gX8_markOld_X8_begins rfl rfl rfl (by decide +kernel) ⟨Nat.le_of_ble_eq_true rfl, Nat.le_of_ble_eq_true rfl⟩) (wp_V hP hK hD hN [0, 2] (by decide) rfl (ci := 7) rfl rfl) rfl rfl hl.1 rfl (lv_room (Nat.le_of_ble_eq_true rfl)) dX8_markOld_34 ⟨Nat.le_of_ble_eq_true rfl, Nat.le_of_ble_eq_true rfl⟩) hP hD hS hA [0, 2] [1] rfl rfl (by decide) (by decide) (fun u_3 H locs hw_3 hP hD hS => ?_)
  clear k_3
  have hP : va_P D kl [(sl, .inl (cI, 1653, .inl sf)), (h, .inr (7, [.ref sl, .int na, .ref zs, .ref ln, .ref ir, .ref tk, .int su, .int le, .ref tb, .int fu, .int ap, .int pp, .ref tr, .int 1, .ref fz, .int nm])), (tr, .inl (cI, 16, .inl (upd trf (0 : Int32).toNatClampNeg 24)))] H := hP
  have hD : va_D A [(sl, .inl (cI, 1653, .inl sf)), (h, .inr (7, [.ref sl, .int na, .ref zs, .ref ln, .ref ir, .ref tk, .int su, .int le, .ref tb, .int fu, .int ap, .int pp, .ref tr, .int 1, .ref fz, .int nm])), (tr, .inl (cI, 16, .inl (upd trf (0 : Int32).toNatClampNeg 24)))] := hD
  clear hw_3
  refine lv_aload_n hx hb dX8_markOld_37 rfl (lv_at hl 1 rfl) ?_
  refine lv_iload_n hx hb dX8_markOld_38 rfl (lv_at hl 2 rfl) ?_
  have k_4 := (t_X8_mark21_0_1 l D cI cB cQ H.size h sl zs ln ir tk tb tr fz na su le fu ap pp nm v sf (upd trf (0 : Int32).toNatClampNeg 24) v0 hsi (by omega) (by omega) (by omega) (by omega) (by omega))
  refine wc_i (WC := [(h, .inr (7, [.ref sl, .int na, .ref zs, .ref ln, .ref ir, .ref tk, .int su, .int le, .ref tb, .int fu, .int ap, .int pp, .ref tr, .int 1, .ref fz, .int nm])), (sl, .inl (cI, 1653, .inl sf)), (tr, .inl (cI, 16, .inl (upd trf (0 : Int32).toNatClampNeg 24)))]) (WR := []) (va_runV (As := [.int v]) (rest := []) ⟨hx, hb, hml, hown, hts⟩ k_4 (cwV 1 hts gX8_markOld_X8_mark21 rfl rfl rfl (by decide +kernel) ⟨Nat.le_of_ble_eq_true rfl, Nat.le_of_ble_eq_true rfl⟩) (wp_V hP hK hD hN [1, 0, 2] (by decide) rfl (ci := 7) rfl rfl) rfl rfl hl.1 rfl (lv_room (Nat.le_of_ble_eq_true rfl)) dX8_markOld_39 ⟨Nat.le_of_ble_eq_true rfl, Nat.le_of_ble_eq_true rfl⟩) hP hD hS hA [1, 0, 2] [] rfl rfl (by decide) (by decide) (fun r_4 u_4 H locs hw_4 hP hD hS => ?_)
  clear k_4
  have hP : va_P D kl [(h, .inr (7, [.ref sl, .int na, .ref zs, .ref ln, .ref ir, .ref tk, .int su, .int le, .ref tb, .int fu, .int ap, .int pp, .ref tr, .int 3, .ref fz, .int nm])), (sl, .inl (cI, 1653, .inl sf)), (tr, .inl (cI, 16, .inl (upd (upd (upd trf (0 : Int32).toNatClampNeg 24) (1 : Int32).toNatClampNeg 21) (2 : Int32).toNatClampNeg 20)))] H := hP
  have hD : va_D A [(h, .inr (7, [.ref sl, .int na, .ref zs, .ref ln, .ref ir, .ref tk, .int su, .int le, .ref tb, .int fu, .int ap, .int pp, .ref tr, .int 3, .ref fz, .int nm])), (sl, .inl (cI, 1653, .inl sf)), (tr, .inl (cI, 16, .inl (upd (upd (upd trf (0 : Int32).toNatClampNeg 24) (1 : Int32).toNatClampNeg 21) (2 : Int32).toNatClampNeg 20)))] := hD
  clear hw_4
  refine lv_istore_n (lv' := [(3, .int r_4), (2, .int 2), (0, .ref h), (1, .int v)]) hx hb dX8_markOld_42 rfl hl (by decide) rfl (fun ls hl => ?_)
  refine lv_iload_n hx hb dX8_markOld_43 rfl (lv_at hl 1 rfl) ?_
  refine lv_iconst (v := 3) hx hb dX8_markOld_44 (by decide) ?_
  refine lv_icmp_ne (tgt := 56) hx hb dX8_markOld_45 (by decide) (fun _ => ?_) (fun c9 => absurd c9 (by decide))
  refine lv_iconst (v := 2) hx hb dX8_markOld_56 (by decide) ?_
  refine lv_iload_n hx hb dX8_markOld_57 rfl (lv_at hl 0 rfl) ?_
  refine lv_imul hx hb dX8_markOld_58 ?_
  refine lv_topi (fun x_5 ex_5 => ?_)
  clear ex_5
  exact wr_i (v := x_5) hx hb hr hlocks hS () (by trivial) (hP.sub [0, 1, 2] rfl) (hD.sub [0, 1, 2] (by decide) rfl) dX8_markOld_59
set_option maxHeartbeats 4000000 in
set_option maxRecDepth 100000 in
theorem t_X8_markOf_2_0 (l : Launch) (D : va_G) (cI cB cQ : ClassId) (sz : Nat) (h : Nat) (sl : Nat) (zs : Nat) (ln : Nat) (ir : Nat) (tk : Nat) (tb : Nat) (tr : Nat) (fz : Nat) (na : Int32) (su : Int32) (le : Int32) (fu : Int32) (ap : Int32) (pp : Int32) (nm : Int32) (v : Int32) (sf : Nat → Int32) (trf : Nat → Int32) (v0 : Int) (hsi : SI sf v0) (h_na : 0 ≤ na.toInt ∧ na.toInt ≤ 24) (h_le : 0 ≤ le.toInt ∧ le.toInt ≤ 120) (h_ap : 0 ≤ ap.toInt ∧ ap.toInt ≤ 120) (h_pp : 0 ≤ pp.toInt ∧ pp.toInt ≤ 120) (h_v : 0 ≤ v.toInt ∧ v.toInt ≤ 2) (h_kd : sf (20 + v.toNatClampNeg) = 2) : mi l yX8_markOf wsX8_markOf ({ frames := 4, cells := 0, slots := 0, locals := 87 }) D cI cB cQ [.ref h, .int v] sz [(h, .inr (7, [.ref sl, .int na, .ref zs, .ref ln, .ref ir, .ref tk, .int su, .int le, .ref tb, .int fu, .int ap, .int pp, .ref tr, .int 0, .ref fz, .int nm])), (sl, .inl (cI, 1653, .inl sf)), (tr, .inl (cI, 16, .inl trf))] (fun (r : Int32) (_u : Unit) => True) (fun _ => [(h, .inr (7, [.ref sl, .int na, .ref zs, .ref ln, .ref ir, .ref tk, .int su, .int le, .ref tb, .int fu, .int ap, .int pp, .ref tr, .int 3, .ref fz, .int nm])), (sl, .inl (cI, 1653, .inl sf)), (tr, .inl (cI, 16, .inl (upd (upd (upd trf (0 : Int32).toNatClampNeg 24) (1 : Int32).toNatClampNeg 21) (2 : Int32).toNatClampNeg 20)))]) 0 0 := by
  refine wm_i (cc := cX8_markOf) (maxL := 3) (ret := (some .int)) (by decide) rfl (Nat.le_of_ble_eq_true rfl) ?_
  intro p e s m below meth c A ls hx hb hr hml hown hts hlocks hin hP hK hD hN hA hl hS
  have hown : s.vm.findClass RX8 = some m.cls := hown
  have hl : lv_has ls 3 [(0, .ref h), (1, .int v)] := hl
  change W p l e ({ frames := 4, cells := 0, slots := 0, locals := 87 }) s m ([.ref h, .int v] : List Value).toArray below meth c s.heap [] 0 0 (MQ below (va_Qi (fun (r : Int32) (_u : Unit) => True) (fun u t => wb D A ((fun _ => [(h, .inr (7, [.ref sl, .int na, .ref zs, .ref ln, .ref ir, .ref tk, .int su, .int le, .ref tb, .int fu, .int ap, .int pp, .ref tr, .int 3, .ref fz, .int nm])), (sl, .inl (cI, 1653, .inl sf)), (tr, .inl (cI, 16, .inl (upd (upd (upd trf (0 : Int32).toNatClampNeg 24) (1 : Int32).toNatClampNeg 21) (2 : Int32).toNatClampNeg 20)))]) u) t) A) ([.ref h, .int v] : List Value).toArray s 0 0 A) (F0 m 0 ls [])
  refine lv_aload_n hx hb dX8_markOf_0 rfl (lv_at hl 0 rfl) ?_
  refine va_get (D := D) (ci := 7) (v := .ref sl) (C := RX8) (T := TX8) (N := 16) hx hb hts (fun _ h => List.mem_cons_of_mem _ (List.mem_append_right _ h)) hown hK hP 0 rfl rfl 0 (by decide) (hts (.fieldLink RX8 7 "WinterWalkModel" "slot" "[I") (List.mem_of_getElem? (i := 1) rfl)) (fun _ h9 => h9) rfl dX8_markOf_1 ?_
  refine lv_bipush (v := 20) hx hb dX8_markOf_4 (by decide) ?_
  refine lv_iload_n hx hb dX8_markOf_6 rfl (lv_at hl 1 rfl) ?_
  refine lv_iadd hx hb dX8_markOf_7 ?_
  refine lv_topi (fun x_1 ex_1 => ?_)
  have e_1 : x_1.toInt = 20 + v.toInt := by rw [ex_1]; exact zi_add (by decide) (rfl) (by omega) (by omega)
  clear ex_1
  refine va_iald hx hb hK hP 1 0 rfl rfl (zi_in (by omega) (by omega)) dX8_markOf_8 ?_
  refine lv_topi (fun x_2 ex_2 => ?_)
  obtain rfl : x_2 = 2 := ex_2.trans ((congrArg sf (show (x_1 : Int32).toNatClampNeg = 20 + v.toNatClampNeg from by have h9 := zi_cn (x := x_1) (by omega); have h8 := zi_cn (x := v) (by omega); omega)).trans h_kd)
  refine lv_iconst (v := 4) hx hb dX8_markOf_9 (by decide) ?_
  refine lv_icmp_ge (tgt := 19) hx hb dX8_markOf_10 (by decide) (fun c9 => absurd c9 (by decide)) (fun _ => ?_)
  refine lv_aload_n hx hb dX8_markOf_13 rfl (lv_at hl 0 rfl) ?_
  refine lv_iload_n hx hb dX8_markOf_14 rfl (lv_at hl 1 rfl) ?_
  have k_3 := (t_X8_markOld_2_0 l D cI cB cQ s.heap.size h sl zs ln ir tk tb tr fz na su le fu ap pp nm v sf trf v0 hsi (by omega) (by omega) (by omega) (by omega) (by omega) (h_kd))
  refine wc_i (WC := [(h, .inr (7, [.ref sl, .int na, .ref zs, .ref ln, .ref ir, .ref tk, .int su, .int le, .ref tb, .int fu, .int ap, .int pp, .ref tr, .int 0, .ref fz, .int nm])), (sl, .inl (cI, 1653, .inl sf)), (tr, .inl (cI, 16, .inl trf))]) (WR := []) (va_runV (As := [.int v]) (rest := []) ⟨hx, hb, hml, hown, hts⟩ k_3 (cwV 1 hts gX8_markOf_X8_markOld rfl rfl rfl (by decide +kernel) ⟨Nat.le_of_ble_eq_true rfl, Nat.le_of_ble_eq_true rfl⟩) (wp_V hP hK hD hN [0, 1, 2] (by decide) rfl (ci := 7) rfl rfl) rfl rfl hl.1 rfl (lv_room (Nat.le_of_ble_eq_true rfl)) dX8_markOf_15 ⟨Nat.le_of_ble_eq_true rfl, Nat.le_of_ble_eq_true rfl⟩) hP hD hS hA [0, 1, 2] [] rfl rfl (by decide) (by decide) (fun r_3 u_3 H locs hw_3 hP hD hS => ?_)
  clear k_3
  have hP : va_P D kl [(h, .inr (7, [.ref sl, .int na, .ref zs, .ref ln, .ref ir, .ref tk, .int su, .int le, .ref tb, .int fu, .int ap, .int pp, .ref tr, .int 3, .ref fz, .int nm])), (sl, .inl (cI, 1653, .inl sf)), (tr, .inl (cI, 16, .inl (upd (upd (upd trf (0 : Int32).toNatClampNeg 24) (1 : Int32).toNatClampNeg 21) (2 : Int32).toNatClampNeg 20)))] H := hP
  have hD : va_D A [(h, .inr (7, [.ref sl, .int na, .ref zs, .ref ln, .ref ir, .ref tk, .int su, .int le, .ref tb, .int fu, .int ap, .int pp, .ref tr, .int 3, .ref fz, .int nm])), (sl, .inl (cI, 1653, .inl sf)), (tr, .inl (cI, 16, .inl (upd (upd (upd trf (0 : Int32).toNatClampNeg 24) (1 : Int32).toNatClampNeg 21) (2 : Int32).toNatClampNeg 20)))] := hD
  clear hw_3
  exact wr_i (v := r_3) hx hb hr hlocks hS () (by trivial) (hP.sub [0, 1, 2] rfl) (hD.sub [0, 1, 2] (by decide) rfl) dX8_markOf_18
set_option maxHeartbeats 4000000 in
set_option maxRecDepth 100000 in
theorem t_X8_begins_22_2 (l : Launch) (D : va_G) (cI cB cQ : ClassId) (sz : Nat) (h : Nat) (sl : Nat) (zs : Nat) (ln : Nat) (ir : Nat) (tk : Nat) (tb : Nat) (tr : Nat) (fz : Nat) (na : Int32) (su : Int32) (le : Int32) (fu : Int32) (ap : Int32) (pp : Int32) (nm : Int32) (trf : Nat → Int32) (h_na : 0 ≤ na.toInt ∧ na.toInt ≤ 24) (h_le : 0 ≤ le.toInt ∧ le.toInt ≤ 120) (h_ap : 0 ≤ ap.toInt ∧ ap.toInt ≤ 120) (h_pp : 0 ≤ pp.toInt ∧ pp.toInt ≤ 120) : mv l yX8_begins wsX8_begins ({ frames := 0, cells := 0, slots := 0, locals := 0 }) D cI cB cQ [.ref h, .int 22] sz [(h, .inr (7, [.ref sl, .int na, .ref zs, .ref ln, .ref ir, .ref tk, .int su, .int le, .ref tb, .int fu, .int ap, .int pp, .ref tr, .int 2, .ref fz, .int nm])), (tr, .inl (cI, 16, .inl trf))] (fun (_u : Unit) => True) (fun _ => [(h, .inr (7, [.ref sl, .int na, .ref zs, .ref ln, .ref ir, .ref tk, .int su, .int le, .ref tb, .int fu, .int ap, .int pp, .ref tr, .int 3, .ref fz, .int nm])), (tr, .inl (cI, 16, .inl (upd trf (2 : Int32).toNatClampNeg 22)))]) 0 0 := by
  refine wm_v (cc := cX8_begins) (maxL := 2) (ret := none) (by decide) rfl (Nat.le_of_ble_eq_true rfl) ?_
  intro p e s m below meth c A ls hx hb hr hml hown hts hlocks hin hP hK hD hN hA hl hS
  have hown : s.vm.findClass RX8 = some m.cls := hown
  have hl : lv_has ls 2 [(0, .ref h), (1, .int 22)] := hl
  change W p l e ({ frames := 0, cells := 0, slots := 0, locals := 0 }) s m ([.ref h, .int 22] : List Value).toArray below meth c s.heap [] 0 0 (MQ below (va_Qv (fun (_u : Unit) => True) (fun u t => wb D A ((fun _ => [(h, .inr (7, [.ref sl, .int na, .ref zs, .ref ln, .ref ir, .ref tk, .int su, .int le, .ref tb, .int fu, .int ap, .int pp, .ref tr, .int 3, .ref fz, .int nm])), (tr, .inl (cI, 16, .inl (upd trf (2 : Int32).toNatClampNeg 22)))]) u) t) A) ([.ref h, .int 22] : List Value).toArray s 0 0 A) (F0 m 0 ls [])
  refine lv_aload_n hx hb dX8_begins_0 rfl (lv_at hl 0 rfl) ?_
  refine va_get (D := D) (ci := 7) (v := .int 2) (C := RX8) (T := TX8) (N := 16) hx hb hts (fun _ h => List.mem_cons_of_mem _ (List.mem_append_right _ h)) hown hK hP 0 rfl rfl 13 (by decide) (hts (.fieldLink RX8 208 "WinterWalkModel" "traced" "I") (List.mem_of_getElem? (i := 1) rfl)) (fun _ h9 => h9) rfl dX8_begins_1 ?_
  refine lv_bipush (v := 16) hx hb dX8_begins_4 (by decide) ?_
  refine lv_icmp_ge (tgt := 29) hx hb dX8_begins_6 (by decide) (fun c9 => absurd c9 (by decide)) (fun _ => ?_)
  refine lv_aload_n hx hb dX8_begins_9 rfl (lv_at hl 0 rfl) ?_
  refine va_get (D := D) (ci := 7) (v := .ref tr) (C := RX8) (T := TX8) (N := 16) hx hb hts (fun _ h => List.mem_cons_of_mem _ (List.mem_append_right _ h)) hown hK hP 0 rfl rfl 12 (by decide) (hts (.fieldLink RX8 29 "WinterWalkModel" "trace" "[I") (List.mem_of_getElem? (i := 2) rfl)) (fun _ h9 => h9) rfl dX8_begins_10 ?_
  refine lv_aload_n hx hb dX8_begins_13 rfl (lv_at hl 0 rfl) ?_
  refine va_get (D := D) (ci := 7) (v := .int 2) (C := RX8) (T := TX8) (N := 16) hx hb hts (fun _ h => List.mem_cons_of_mem _ (List.mem_append_right _ h)) hown hK hP 0 rfl rfl 13 (by decide) (hts (.fieldLink RX8 208 "WinterWalkModel" "traced" "I") (List.mem_of_getElem? (i := 1) rfl)) (fun _ h9 => h9) rfl dX8_begins_14 ?_
  refine lv_iload_n hx hb dX8_begins_17 rfl (lv_at hl 1 rfl) ?_
  refine va_iast hx hb hK hP hD hS 1 0 rfl rfl (zi_in (by decide) (by decide)) dX8_begins_18 (fun H locs hP hD hS => ?_)
  have hP : va_P D kl [(h, .inr (7, [.ref sl, .int na, .ref zs, .ref ln, .ref ir, .ref tk, .int su, .int le, .ref tb, .int fu, .int ap, .int pp, .ref tr, .int 2, .ref fz, .int nm])), (tr, .inl (cI, 16, .inl (upd trf (2 : Int32).toNatClampNeg 22)))] H := hP
  have hD : va_D A [(h, .inr (7, [.ref sl, .int na, .ref zs, .ref ln, .ref ir, .ref tk, .int su, .int le, .ref tb, .int fu, .int ap, .int pp, .ref tr, .int 2, .ref fz, .int nm])), (tr, .inl (cI, 16, .inl (upd trf (2 : Int32).toNatClampNeg 22)))] := hD
  refine lv_aload_n hx hb dX8_begins_19 rfl (lv_at hl 0 rfl) ?_
  refine lv_dup hx hb dX8_begins_20 rfl ?_
  refine va_get (D := D) (ci := 7) (v := .int 2) (C := RX8) (T := TX8) (N := 16) hx hb hts (fun _ h => List.mem_cons_of_mem _ (List.mem_append_right _ h)) hown hK hP 0 rfl rfl 13 (by decide) (hts (.fieldLink RX8 208 "WinterWalkModel" "traced" "I") (List.mem_of_getElem? (i := 1) rfl)) (fun _ h9 => h9) rfl dX8_begins_21 ?_
  refine lv_iconst (v := 1) hx hb dX8_begins_24 (by decide) ?_
  refine lv_iadd hx hb dX8_begins_25 ?_
  refine lv_topi (fun x_1 ex_1 => ?_)
  obtain rfl : x_1 = 3 := ex_1.trans (by decide)
  refine va_put (D := D) (ci := 7) (v := .int 3) (ty := .int) (C := RX8) (T := TX8) (N := 16) hx hb hts (fun _ h => List.mem_cons_of_mem _ (List.mem_append_right _ h)) tyX8 tyX8_ok nmX8 hown hK hP hD hS 0 rfl rfl 13 (by decide) (hts (.fieldLink RX8 208 "WinterWalkModel" "traced" "I") (List.mem_of_getElem? (i := 1) rfl)) (fun _ h9 => h9) rfl (by decide +kernel) rfl rfl (Nat.le_of_ble_eq_true rfl) dX8_begins_26 (fun H locs hP hD hS => ?_)
  have hP : va_P D kl [(h, .inr (7, [.ref sl, .int na, .ref zs, .ref ln, .ref ir, .ref tk, .int su, .int le, .ref tb, .int fu, .int ap, .int pp, .ref tr, .int 3, .ref fz, .int nm])), (tr, .inl (cI, 16, .inl (upd trf (2 : Int32).toNatClampNeg 22)))] H := hP
  have hD : va_D A [(h, .inr (7, [.ref sl, .int na, .ref zs, .ref ln, .ref ir, .ref tk, .int su, .int le, .ref tb, .int fu, .int ap, .int pp, .ref tr, .int 3, .ref fz, .int nm])), (tr, .inl (cI, 16, .inl (upd trf (2 : Int32).toNatClampNeg 22)))] := hD
  exact wr_v hx hb hr hlocks hS () (by trivial) (hP.sub [0, 1] rfl) (hD.sub [0, 1] (by decide) rfl) dX8_begins_29
set_option maxHeartbeats 4000000 in
set_option maxRecDepth 100000 in
theorem t_X8_begins_21_3 (l : Launch) (D : va_G) (cI cB cQ : ClassId) (sz : Nat) (h : Nat) (sl : Nat) (zs : Nat) (ln : Nat) (ir : Nat) (tk : Nat) (tb : Nat) (tr : Nat) (fz : Nat) (na : Int32) (su : Int32) (le : Int32) (fu : Int32) (ap : Int32) (pp : Int32) (nm : Int32) (trf : Nat → Int32) (h_na : 0 ≤ na.toInt ∧ na.toInt ≤ 24) (h_le : 0 ≤ le.toInt ∧ le.toInt ≤ 120) (h_ap : 0 ≤ ap.toInt ∧ ap.toInt ≤ 120) (h_pp : 0 ≤ pp.toInt ∧ pp.toInt ≤ 120) : mv l yX8_begins wsX8_begins ({ frames := 0, cells := 0, slots := 0, locals := 0 }) D cI cB cQ [.ref h, .int 21] sz [(h, .inr (7, [.ref sl, .int na, .ref zs, .ref ln, .ref ir, .ref tk, .int su, .int le, .ref tb, .int fu, .int ap, .int pp, .ref tr, .int 3, .ref fz, .int nm])), (tr, .inl (cI, 16, .inl trf))] (fun (_u : Unit) => True) (fun _ => [(h, .inr (7, [.ref sl, .int na, .ref zs, .ref ln, .ref ir, .ref tk, .int su, .int le, .ref tb, .int fu, .int ap, .int pp, .ref tr, .int 4, .ref fz, .int nm])), (tr, .inl (cI, 16, .inl (upd trf (3 : Int32).toNatClampNeg 21)))]) 0 0 := by
  refine wm_v (cc := cX8_begins) (maxL := 2) (ret := none) (by decide) rfl (Nat.le_of_ble_eq_true rfl) ?_
  intro p e s m below meth c A ls hx hb hr hml hown hts hlocks hin hP hK hD hN hA hl hS
  have hown : s.vm.findClass RX8 = some m.cls := hown
  have hl : lv_has ls 2 [(0, .ref h), (1, .int 21)] := hl
  change W p l e ({ frames := 0, cells := 0, slots := 0, locals := 0 }) s m ([.ref h, .int 21] : List Value).toArray below meth c s.heap [] 0 0 (MQ below (va_Qv (fun (_u : Unit) => True) (fun u t => wb D A ((fun _ => [(h, .inr (7, [.ref sl, .int na, .ref zs, .ref ln, .ref ir, .ref tk, .int su, .int le, .ref tb, .int fu, .int ap, .int pp, .ref tr, .int 4, .ref fz, .int nm])), (tr, .inl (cI, 16, .inl (upd trf (3 : Int32).toNatClampNeg 21)))]) u) t) A) ([.ref h, .int 21] : List Value).toArray s 0 0 A) (F0 m 0 ls [])
  refine lv_aload_n hx hb dX8_begins_0 rfl (lv_at hl 0 rfl) ?_
  refine va_get (D := D) (ci := 7) (v := .int 3) (C := RX8) (T := TX8) (N := 16) hx hb hts (fun _ h => List.mem_cons_of_mem _ (List.mem_append_right _ h)) hown hK hP 0 rfl rfl 13 (by decide) (hts (.fieldLink RX8 208 "WinterWalkModel" "traced" "I") (List.mem_of_getElem? (i := 1) rfl)) (fun _ h9 => h9) rfl dX8_begins_1 ?_
  refine lv_bipush (v := 16) hx hb dX8_begins_4 (by decide) ?_
  refine lv_icmp_ge (tgt := 29) hx hb dX8_begins_6 (by decide) (fun c9 => absurd c9 (by decide)) (fun _ => ?_)
  refine lv_aload_n hx hb dX8_begins_9 rfl (lv_at hl 0 rfl) ?_
  refine va_get (D := D) (ci := 7) (v := .ref tr) (C := RX8) (T := TX8) (N := 16) hx hb hts (fun _ h => List.mem_cons_of_mem _ (List.mem_append_right _ h)) hown hK hP 0 rfl rfl 12 (by decide) (hts (.fieldLink RX8 29 "WinterWalkModel" "trace" "[I") (List.mem_of_getElem? (i := 2) rfl)) (fun _ h9 => h9) rfl dX8_begins_10 ?_
  refine lv_aload_n hx hb dX8_begins_13 rfl (lv_at hl 0 rfl) ?_
  refine va_get (D := D) (ci := 7) (v := .int 3) (C := RX8) (T := TX8) (N := 16) hx hb hts (fun _ h => List.mem_cons_of_mem _ (List.mem_append_right _ h)) hown hK hP 0 rfl rfl 13 (by decide) (hts (.fieldLink RX8 208 "WinterWalkModel" "traced" "I") (List.mem_of_getElem? (i := 1) rfl)) (fun _ h9 => h9) rfl dX8_begins_14 ?_
  refine lv_iload_n hx hb dX8_begins_17 rfl (lv_at hl 1 rfl) ?_
  refine va_iast hx hb hK hP hD hS 1 0 rfl rfl (zi_in (by decide) (by decide)) dX8_begins_18 (fun H locs hP hD hS => ?_)
  have hP : va_P D kl [(h, .inr (7, [.ref sl, .int na, .ref zs, .ref ln, .ref ir, .ref tk, .int su, .int le, .ref tb, .int fu, .int ap, .int pp, .ref tr, .int 3, .ref fz, .int nm])), (tr, .inl (cI, 16, .inl (upd trf (3 : Int32).toNatClampNeg 21)))] H := hP
  have hD : va_D A [(h, .inr (7, [.ref sl, .int na, .ref zs, .ref ln, .ref ir, .ref tk, .int su, .int le, .ref tb, .int fu, .int ap, .int pp, .ref tr, .int 3, .ref fz, .int nm])), (tr, .inl (cI, 16, .inl (upd trf (3 : Int32).toNatClampNeg 21)))] := hD
  refine lv_aload_n hx hb dX8_begins_19 rfl (lv_at hl 0 rfl) ?_
  refine lv_dup hx hb dX8_begins_20 rfl ?_
  refine va_get (D := D) (ci := 7) (v := .int 3) (C := RX8) (T := TX8) (N := 16) hx hb hts (fun _ h => List.mem_cons_of_mem _ (List.mem_append_right _ h)) hown hK hP 0 rfl rfl 13 (by decide) (hts (.fieldLink RX8 208 "WinterWalkModel" "traced" "I") (List.mem_of_getElem? (i := 1) rfl)) (fun _ h9 => h9) rfl dX8_begins_21 ?_
  refine lv_iconst (v := 1) hx hb dX8_begins_24 (by decide) ?_
  refine lv_iadd hx hb dX8_begins_25 ?_
  refine lv_topi (fun x_1 ex_1 => ?_)
  obtain rfl : x_1 = 4 := ex_1.trans (by decide)
  refine va_put (D := D) (ci := 7) (v := .int 4) (ty := .int) (C := RX8) (T := TX8) (N := 16) hx hb hts (fun _ h => List.mem_cons_of_mem _ (List.mem_append_right _ h)) tyX8 tyX8_ok nmX8 hown hK hP hD hS 0 rfl rfl 13 (by decide) (hts (.fieldLink RX8 208 "WinterWalkModel" "traced" "I") (List.mem_of_getElem? (i := 1) rfl)) (fun _ h9 => h9) rfl (by decide +kernel) rfl rfl (Nat.le_of_ble_eq_true rfl) dX8_begins_26 (fun H locs hP hD hS => ?_)
  have hP : va_P D kl [(h, .inr (7, [.ref sl, .int na, .ref zs, .ref ln, .ref ir, .ref tk, .int su, .int le, .ref tb, .int fu, .int ap, .int pp, .ref tr, .int 4, .ref fz, .int nm])), (tr, .inl (cI, 16, .inl (upd trf (3 : Int32).toNatClampNeg 21)))] H := hP
  have hD : va_D A [(h, .inr (7, [.ref sl, .int na, .ref zs, .ref ln, .ref ir, .ref tk, .int su, .int le, .ref tb, .int fu, .int ap, .int pp, .ref tr, .int 4, .ref fz, .int nm])), (tr, .inl (cI, 16, .inl (upd trf (3 : Int32).toNatClampNeg 21)))] := hD
  exact wr_v hx hb hr hlocks hS () (by trivial) (hP.sub [0, 1] rfl) (hD.sub [0, 1] (by decide) rfl) dX8_begins_29
set_option maxHeartbeats 4000000 in
set_option maxRecDepth 100000 in
theorem t_X8_begins_20_4 (l : Launch) (D : va_G) (cI cB cQ : ClassId) (sz : Nat) (h : Nat) (sl : Nat) (zs : Nat) (ln : Nat) (ir : Nat) (tk : Nat) (tb : Nat) (tr : Nat) (fz : Nat) (na : Int32) (su : Int32) (le : Int32) (fu : Int32) (ap : Int32) (pp : Int32) (nm : Int32) (trf : Nat → Int32) (h_na : 0 ≤ na.toInt ∧ na.toInt ≤ 24) (h_le : 0 ≤ le.toInt ∧ le.toInt ≤ 120) (h_ap : 0 ≤ ap.toInt ∧ ap.toInt ≤ 120) (h_pp : 0 ≤ pp.toInt ∧ pp.toInt ≤ 120) : mv l yX8_begins wsX8_begins ({ frames := 0, cells := 0, slots := 0, locals := 0 }) D cI cB cQ [.ref h, .int 20] sz [(h, .inr (7, [.ref sl, .int na, .ref zs, .ref ln, .ref ir, .ref tk, .int su, .int le, .ref tb, .int fu, .int ap, .int pp, .ref tr, .int 4, .ref fz, .int nm])), (tr, .inl (cI, 16, .inl trf))] (fun (_u : Unit) => True) (fun _ => [(h, .inr (7, [.ref sl, .int na, .ref zs, .ref ln, .ref ir, .ref tk, .int su, .int le, .ref tb, .int fu, .int ap, .int pp, .ref tr, .int 5, .ref fz, .int nm])), (tr, .inl (cI, 16, .inl (upd trf (4 : Int32).toNatClampNeg 20)))]) 0 0 := by
  refine wm_v (cc := cX8_begins) (maxL := 2) (ret := none) (by decide) rfl (Nat.le_of_ble_eq_true rfl) ?_
  intro p e s m below meth c A ls hx hb hr hml hown hts hlocks hin hP hK hD hN hA hl hS
  have hown : s.vm.findClass RX8 = some m.cls := hown
  have hl : lv_has ls 2 [(0, .ref h), (1, .int 20)] := hl
  change W p l e ({ frames := 0, cells := 0, slots := 0, locals := 0 }) s m ([.ref h, .int 20] : List Value).toArray below meth c s.heap [] 0 0 (MQ below (va_Qv (fun (_u : Unit) => True) (fun u t => wb D A ((fun _ => [(h, .inr (7, [.ref sl, .int na, .ref zs, .ref ln, .ref ir, .ref tk, .int su, .int le, .ref tb, .int fu, .int ap, .int pp, .ref tr, .int 5, .ref fz, .int nm])), (tr, .inl (cI, 16, .inl (upd trf (4 : Int32).toNatClampNeg 20)))]) u) t) A) ([.ref h, .int 20] : List Value).toArray s 0 0 A) (F0 m 0 ls [])
  refine lv_aload_n hx hb dX8_begins_0 rfl (lv_at hl 0 rfl) ?_
  refine va_get (D := D) (ci := 7) (v := .int 4) (C := RX8) (T := TX8) (N := 16) hx hb hts (fun _ h => List.mem_cons_of_mem _ (List.mem_append_right _ h)) hown hK hP 0 rfl rfl 13 (by decide) (hts (.fieldLink RX8 208 "WinterWalkModel" "traced" "I") (List.mem_of_getElem? (i := 1) rfl)) (fun _ h9 => h9) rfl dX8_begins_1 ?_
  refine lv_bipush (v := 16) hx hb dX8_begins_4 (by decide) ?_
  refine lv_icmp_ge (tgt := 29) hx hb dX8_begins_6 (by decide) (fun c9 => absurd c9 (by decide)) (fun _ => ?_)
  refine lv_aload_n hx hb dX8_begins_9 rfl (lv_at hl 0 rfl) ?_
  refine va_get (D := D) (ci := 7) (v := .ref tr) (C := RX8) (T := TX8) (N := 16) hx hb hts (fun _ h => List.mem_cons_of_mem _ (List.mem_append_right _ h)) hown hK hP 0 rfl rfl 12 (by decide) (hts (.fieldLink RX8 29 "WinterWalkModel" "trace" "[I") (List.mem_of_getElem? (i := 2) rfl)) (fun _ h9 => h9) rfl dX8_begins_10 ?_
  refine lv_aload_n hx hb dX8_begins_13 rfl (lv_at hl 0 rfl) ?_
  refine va_get (D := D) (ci := 7) (v := .int 4) (C := RX8) (T := TX8) (N := 16) hx hb hts (fun _ h => List.mem_cons_of_mem _ (List.mem_append_right _ h)) hown hK hP 0 rfl rfl 13 (by decide) (hts (.fieldLink RX8 208 "WinterWalkModel" "traced" "I") (List.mem_of_getElem? (i := 1) rfl)) (fun _ h9 => h9) rfl dX8_begins_14 ?_
  refine lv_iload_n hx hb dX8_begins_17 rfl (lv_at hl 1 rfl) ?_
  refine va_iast hx hb hK hP hD hS 1 0 rfl rfl (zi_in (by decide) (by decide)) dX8_begins_18 (fun H locs hP hD hS => ?_)
  have hP : va_P D kl [(h, .inr (7, [.ref sl, .int na, .ref zs, .ref ln, .ref ir, .ref tk, .int su, .int le, .ref tb, .int fu, .int ap, .int pp, .ref tr, .int 4, .ref fz, .int nm])), (tr, .inl (cI, 16, .inl (upd trf (4 : Int32).toNatClampNeg 20)))] H := hP
  have hD : va_D A [(h, .inr (7, [.ref sl, .int na, .ref zs, .ref ln, .ref ir, .ref tk, .int su, .int le, .ref tb, .int fu, .int ap, .int pp, .ref tr, .int 4, .ref fz, .int nm])), (tr, .inl (cI, 16, .inl (upd trf (4 : Int32).toNatClampNeg 20)))] := hD
  refine lv_aload_n hx hb dX8_begins_19 rfl (lv_at hl 0 rfl) ?_
  refine lv_dup hx hb dX8_begins_20 rfl ?_
  refine va_get (D := D) (ci := 7) (v := .int 4) (C := RX8) (T := TX8) (N := 16) hx hb hts (fun _ h => List.mem_cons_of_mem _ (List.mem_append_right _ h)) hown hK hP 0 rfl rfl 13 (by decide) (hts (.fieldLink RX8 208 "WinterWalkModel" "traced" "I") (List.mem_of_getElem? (i := 1) rfl)) (fun _ h9 => h9) rfl dX8_begins_21 ?_
  refine lv_iconst (v := 1) hx hb dX8_begins_24 (by decide) ?_
  refine lv_iadd hx hb dX8_begins_25 ?_
  refine lv_topi (fun x_1 ex_1 => ?_)
  obtain rfl : x_1 = 5 := ex_1.trans (by decide)
  refine va_put (D := D) (ci := 7) (v := .int 5) (ty := .int) (C := RX8) (T := TX8) (N := 16) hx hb hts (fun _ h => List.mem_cons_of_mem _ (List.mem_append_right _ h)) tyX8 tyX8_ok nmX8 hown hK hP hD hS 0 rfl rfl 13 (by decide) (hts (.fieldLink RX8 208 "WinterWalkModel" "traced" "I") (List.mem_of_getElem? (i := 1) rfl)) (fun _ h9 => h9) rfl (by decide +kernel) rfl rfl (Nat.le_of_ble_eq_true rfl) dX8_begins_26 (fun H locs hP hD hS => ?_)
  have hP : va_P D kl [(h, .inr (7, [.ref sl, .int na, .ref zs, .ref ln, .ref ir, .ref tk, .int su, .int le, .ref tb, .int fu, .int ap, .int pp, .ref tr, .int 5, .ref fz, .int nm])), (tr, .inl (cI, 16, .inl (upd trf (4 : Int32).toNatClampNeg 20)))] H := hP
  have hD : va_D A [(h, .inr (7, [.ref sl, .int na, .ref zs, .ref ln, .ref ir, .ref tk, .int su, .int le, .ref tb, .int fu, .int ap, .int pp, .ref tr, .int 5, .ref fz, .int nm])), (tr, .inl (cI, 16, .inl (upd trf (4 : Int32).toNatClampNeg 20)))] := hD
  exact wr_v hx hb hr hlocks hS () (by trivial) (hP.sub [0, 1] rfl) (hD.sub [0, 1] (by decide) rfl) dX8_begins_29
set_option maxHeartbeats 4000000 in
set_option maxRecDepth 100000 in
theorem t_X8_mark20_0_4 (l : Launch) (D : va_G) (cI cB cQ : ClassId) (sz : Nat) (h : Nat) (sl : Nat) (zs : Nat) (ln : Nat) (ir : Nat) (tk : Nat) (tb : Nat) (tr : Nat) (fz : Nat) (na : Int32) (su : Int32) (le : Int32) (fu : Int32) (ap : Int32) (pp : Int32) (nm : Int32) (v : Int32) (sf : Nat → Int32) (trf : Nat → Int32) (v0 : Int) (hsi : SI sf v0) (h_na : 0 ≤ na.toInt ∧ na.toInt ≤ 24) (h_le : 0 ≤ le.toInt ∧ le.toInt ≤ 120) (h_ap : 0 ≤ ap.toInt ∧ ap.toInt ≤ 120) (h_pp : 0 ≤ pp.toInt ∧ pp.toInt ≤ 120) (h_v : 0 ≤ v.toInt ∧ v.toInt ≤ 2) : mi l yX8_mark20 wsX8_mark20 ({ frames := 1, cells := 0, slots := 0, locals := 21 }) D cI cB cQ [.ref h, .int v] sz [(h, .inr (7, [.ref sl, .int na, .ref zs, .ref ln, .ref ir, .ref tk, .int su, .int le, .ref tb, .int fu, .int ap, .int pp, .ref tr, .int 4, .ref fz, .int nm])), (sl, .inl (cI, 1653, .inl sf)), (tr, .inl (cI, 16, .inl trf))] (fun (r : Int32) (_u : Unit) => True) (fun _ => [(h, .inr (7, [.ref sl, .int na, .ref zs, .ref ln, .ref ir, .ref tk, .int su, .int le, .ref tb, .int fu, .int ap, .int pp, .ref tr, .int 5, .ref fz, .int nm])), (sl, .inl (cI, 1653, .inl sf)), (tr, .inl (cI, 16, .inl (upd trf (4 : Int32).toNatClampNeg 20)))]) 0 0 := by
  refine wm_i (cc := cX8_mark20) (maxL := 2) (ret := (some .int)) (by decide) rfl (Nat.le_of_ble_eq_true rfl) ?_
  intro p e s m below meth c A ls hx hb hr hml hown hts hlocks hin hP hK hD hN hA hl hS
  have hown : s.vm.findClass RX8 = some m.cls := hown
  have hl : lv_has ls 2 [(0, .ref h), (1, .int v)] := hl
  change W p l e ({ frames := 1, cells := 0, slots := 0, locals := 21 }) s m ([.ref h, .int v] : List Value).toArray below meth c s.heap [] 0 0 (MQ below (va_Qi (fun (r : Int32) (_u : Unit) => True) (fun u t => wb D A ((fun _ => [(h, .inr (7, [.ref sl, .int na, .ref zs, .ref ln, .ref ir, .ref tk, .int su, .int le, .ref tb, .int fu, .int ap, .int pp, .ref tr, .int 5, .ref fz, .int nm])), (sl, .inl (cI, 1653, .inl sf)), (tr, .inl (cI, 16, .inl (upd trf (4 : Int32).toNatClampNeg 20)))]) u) t) A) ([.ref h, .int v] : List Value).toArray s 0 0 A) (F0 m 0 ls [])
  refine lv_aload_n hx hb dX8_mark20_0 rfl (lv_at hl 0 rfl) ?_
  refine lv_bipush (v := 20) hx hb dX8_mark20_1 (by decide) ?_
  have k_1 := (t_X8_begins_20_4 l D cI cB cQ s.heap.size h sl zs ln ir tk tb tr fz na su le fu ap pp nm trf (by omega) (by omega) (by omega) (by omega))
  refine wc_v (WC := [(h, .inr (7, [.ref sl, .int na, .ref zs, .ref ln, .ref ir, .ref tk, .int su, .int le, .ref tb, .int fu, .int ap, .int pp, .ref tr, .int 4, .ref fz, .int nm])), (tr, .inl (cI, 16, .inl trf))]) (WR := [(sl, .inl (cI, 1653, .inl sf))]) (va_runV (As := [.int 20]) (rest := []) ⟨hx, hb, hml, hown, hts⟩ k_1 (cwV 1 hts gX8_mark20_X8_begins rfl rfl rfl (by decide +kernel) ⟨Nat.le_of_ble_eq_true rfl, Nat.le_of_ble_eq_true rfl⟩) (wp_V hP hK hD hN [0, 2] (by decide) rfl (ci := 7) rfl rfl) rfl rfl hl.1 rfl (lv_room (Nat.le_of_ble_eq_true rfl)) dX8_mark20_3 ⟨Nat.le_of_ble_eq_true rfl, Nat.le_of_ble_eq_true rfl⟩) hP hD hS hA [0, 2] [1] rfl rfl (by decide) (by decide) (fun u_1 H locs hw_1 hP hD hS => ?_)
  clear k_1
  have hP : va_P D kl [(sl, .inl (cI, 1653, .inl sf)), (h, .inr (7, [.ref sl, .int na, .ref zs, .ref ln, .ref ir, .ref tk, .int su, .int le, .ref tb, .int fu, .int ap, .int pp, .ref tr, .int 5, .ref fz, .int nm])), (tr, .inl (cI, 16, .inl (upd trf (4 : Int32).toNatClampNeg 20)))] H := hP
  have hD : va_D A [(sl, .inl (cI, 1653, .inl sf)), (h, .inr (7, [.ref sl, .int na, .ref zs, .ref ln, .ref ir, .ref tk, .int su, .int le, .ref tb, .int fu, .int ap, .int pp, .ref tr, .int 5, .ref fz, .int nm])), (tr, .inl (cI, 16, .inl (upd trf (4 : Int32).toNatClampNeg 20)))] := hD
  clear hw_1
  refine lv_iload_n hx hb dX8_mark20_6 rfl (lv_at hl 1 rfl) ?_
  exact wr_i (v := v) hx hb hr hlocks hS () (by trivial) (hP.sub [1, 0, 2] rfl) (hD.sub [1, 0, 2] (by decide) rfl) dX8_mark20_7
set_option maxHeartbeats 4000000 in
set_option maxRecDepth 100000 in
theorem t_X8_mark21_0_3 (l : Launch) (D : va_G) (cI cB cQ : ClassId) (sz : Nat) (h : Nat) (sl : Nat) (zs : Nat) (ln : Nat) (ir : Nat) (tk : Nat) (tb : Nat) (tr : Nat) (fz : Nat) (na : Int32) (su : Int32) (le : Int32) (fu : Int32) (ap : Int32) (pp : Int32) (nm : Int32) (v : Int32) (sf : Nat → Int32) (trf : Nat → Int32) (v0 : Int) (hsi : SI sf v0) (h_na : 0 ≤ na.toInt ∧ na.toInt ≤ 24) (h_le : 0 ≤ le.toInt ∧ le.toInt ≤ 120) (h_ap : 0 ≤ ap.toInt ∧ ap.toInt ≤ 120) (h_pp : 0 ≤ pp.toInt ∧ pp.toInt ≤ 120) (h_v : 0 ≤ v.toInt ∧ v.toInt ≤ 2) : mi l yX8_mark21 wsX8_mark21 ({ frames := 2, cells := 0, slots := 0, locals := 42 }) D cI cB cQ [.ref h, .int v] sz [(h, .inr (7, [.ref sl, .int na, .ref zs, .ref ln, .ref ir, .ref tk, .int su, .int le, .ref tb, .int fu, .int ap, .int pp, .ref tr, .int 3, .ref fz, .int nm])), (sl, .inl (cI, 1653, .inl sf)), (tr, .inl (cI, 16, .inl trf))] (fun (r : Int32) (_u : Unit) => True) (fun _ => [(h, .inr (7, [.ref sl, .int na, .ref zs, .ref ln, .ref ir, .ref tk, .int su, .int le, .ref tb, .int fu, .int ap, .int pp, .ref tr, .int 5, .ref fz, .int nm])), (sl, .inl (cI, 1653, .inl sf)), (tr, .inl (cI, 16, .inl (upd (upd trf (3 : Int32).toNatClampNeg 21) (4 : Int32).toNatClampNeg 20)))]) 0 0 := by
  refine wm_i (cc := cX8_mark21) (maxL := 3) (ret := (some .int)) (by decide) rfl (Nat.le_of_ble_eq_true rfl) ?_
  intro p e s m below meth c A ls hx hb hr hml hown hts hlocks hin hP hK hD hN hA hl hS
  have hown : s.vm.findClass RX8 = some m.cls := hown
  have hl : lv_has ls 3 [(0, .ref h), (1, .int v)] := hl
  change W p l e ({ frames := 2, cells := 0, slots := 0, locals := 42 }) s m ([.ref h, .int v] : List Value).toArray below meth c s.heap [] 0 0 (MQ below (va_Qi (fun (r : Int32) (_u : Unit) => True) (fun u t => wb D A ((fun _ => [(h, .inr (7, [.ref sl, .int na, .ref zs, .ref ln, .ref ir, .ref tk, .int su, .int le, .ref tb, .int fu, .int ap, .int pp, .ref tr, .int 5, .ref fz, .int nm])), (sl, .inl (cI, 1653, .inl sf)), (tr, .inl (cI, 16, .inl (upd (upd trf (3 : Int32).toNatClampNeg 21) (4 : Int32).toNatClampNeg 20)))]) u) t) A) ([.ref h, .int v] : List Value).toArray s 0 0 A) (F0 m 0 ls [])
  refine lv_aload_n hx hb dX8_mark21_0 rfl (lv_at hl 0 rfl) ?_
  refine lv_bipush (v := 21) hx hb dX8_mark21_1 (by decide) ?_
  have k_1 := (t_X8_begins_21_3 l D cI cB cQ s.heap.size h sl zs ln ir tk tb tr fz na su le fu ap pp nm trf (by omega) (by omega) (by omega) (by omega))
  refine wc_v (WC := [(h, .inr (7, [.ref sl, .int na, .ref zs, .ref ln, .ref ir, .ref tk, .int su, .int le, .ref tb, .int fu, .int ap, .int pp, .ref tr, .int 3, .ref fz, .int nm])), (tr, .inl (cI, 16, .inl trf))]) (WR := [(sl, .inl (cI, 1653, .inl sf))]) (va_runV (As := [.int 21]) (rest := []) ⟨hx, hb, hml, hown, hts⟩ k_1 (cwV 1 hts gX8_mark21_X8_begins rfl rfl rfl (by decide +kernel) ⟨Nat.le_of_ble_eq_true rfl, Nat.le_of_ble_eq_true rfl⟩) (wp_V hP hK hD hN [0, 2] (by decide) rfl (ci := 7) rfl rfl) rfl rfl hl.1 rfl (lv_room (Nat.le_of_ble_eq_true rfl)) dX8_mark21_3 ⟨Nat.le_of_ble_eq_true rfl, Nat.le_of_ble_eq_true rfl⟩) hP hD hS hA [0, 2] [1] rfl rfl (by decide) (by decide) (fun u_1 H locs hw_1 hP hD hS => ?_)
  clear k_1
  have hP : va_P D kl [(sl, .inl (cI, 1653, .inl sf)), (h, .inr (7, [.ref sl, .int na, .ref zs, .ref ln, .ref ir, .ref tk, .int su, .int le, .ref tb, .int fu, .int ap, .int pp, .ref tr, .int 4, .ref fz, .int nm])), (tr, .inl (cI, 16, .inl (upd trf (3 : Int32).toNatClampNeg 21)))] H := hP
  have hD : va_D A [(sl, .inl (cI, 1653, .inl sf)), (h, .inr (7, [.ref sl, .int na, .ref zs, .ref ln, .ref ir, .ref tk, .int su, .int le, .ref tb, .int fu, .int ap, .int pp, .ref tr, .int 4, .ref fz, .int nm])), (tr, .inl (cI, 16, .inl (upd trf (3 : Int32).toNatClampNeg 21)))] := hD
  clear hw_1
  refine lv_aload_n hx hb dX8_mark21_6 rfl (lv_at hl 0 rfl) ?_
  refine lv_iload_n hx hb dX8_mark21_7 rfl (lv_at hl 1 rfl) ?_
  have k_2 := (t_X8_mark20_0_4 l D cI cB cQ H.size h sl zs ln ir tk tb tr fz na su le fu ap pp nm v sf (upd trf (3 : Int32).toNatClampNeg 21) v0 hsi (by omega) (by omega) (by omega) (by omega) (by omega))
  refine wc_i (WC := [(h, .inr (7, [.ref sl, .int na, .ref zs, .ref ln, .ref ir, .ref tk, .int su, .int le, .ref tb, .int fu, .int ap, .int pp, .ref tr, .int 4, .ref fz, .int nm])), (sl, .inl (cI, 1653, .inl sf)), (tr, .inl (cI, 16, .inl (upd trf (3 : Int32).toNatClampNeg 21)))]) (WR := []) (va_runV (As := [.int v]) (rest := []) ⟨hx, hb, hml, hown, hts⟩ k_2 (cwV 1 hts gX8_mark21_X8_mark20 rfl rfl rfl (by decide +kernel) ⟨Nat.le_of_ble_eq_true rfl, Nat.le_of_ble_eq_true rfl⟩) (wp_V hP hK hD hN [1, 0, 2] (by decide) rfl (ci := 7) rfl rfl) rfl rfl hl.1 rfl (lv_room (Nat.le_of_ble_eq_true rfl)) dX8_mark21_8 ⟨Nat.le_of_ble_eq_true rfl, Nat.le_of_ble_eq_true rfl⟩) hP hD hS hA [1, 0, 2] [] rfl rfl (by decide) (by decide) (fun r_2 u_2 H locs hw_2 hP hD hS => ?_)
  clear k_2
  have hP : va_P D kl [(h, .inr (7, [.ref sl, .int na, .ref zs, .ref ln, .ref ir, .ref tk, .int su, .int le, .ref tb, .int fu, .int ap, .int pp, .ref tr, .int 5, .ref fz, .int nm])), (sl, .inl (cI, 1653, .inl sf)), (tr, .inl (cI, 16, .inl (upd (upd trf (3 : Int32).toNatClampNeg 21) (4 : Int32).toNatClampNeg 20)))] H := hP
  have hD : va_D A [(h, .inr (7, [.ref sl, .int na, .ref zs, .ref ln, .ref ir, .ref tk, .int su, .int le, .ref tb, .int fu, .int ap, .int pp, .ref tr, .int 5, .ref fz, .int nm])), (sl, .inl (cI, 1653, .inl sf)), (tr, .inl (cI, 16, .inl (upd (upd trf (3 : Int32).toNatClampNeg 21) (4 : Int32).toNatClampNeg 20)))] := hD
  clear hw_2
  refine lv_istore_n (lv' := [(2, .int r_2), (0, .ref h), (1, .int v)]) hx hb dX8_mark21_11 rfl hl (by decide) rfl (fun ls hl => ?_)
  refine lv_iload_n hx hb dX8_mark21_12 rfl (lv_at hl 0 rfl) ?_
  refine lv_aload_n hx hb dX8_mark21_13 rfl (lv_at hl 1 rfl) ?_
  refine va_get (D := D) (ci := 7) (v := .ref sl) (C := RX8) (T := TX8) (N := 16) hx hb hts (fun _ h => List.mem_cons_of_mem _ (List.mem_append_right _ h)) hown hK hP 0 rfl rfl 0 (by decide) (hts (.fieldLink RX8 7 "WinterWalkModel" "slot" "[I") (List.mem_of_getElem? (i := 1) rfl)) (fun _ h9 => h9) rfl dX8_mark21_14 ?_
  refine lv_bipush (v := 23) hx hb dX8_mark21_17 (by decide) ?_
  refine lv_aload_n hx hb dX8_mark21_19 rfl (lv_at hl 1 rfl) ?_
  refine va_get (D := D) (ci := 7) (v := .ref sl) (C := RX8) (T := TX8) (N := 16) hx hb hts (fun _ h => List.mem_cons_of_mem _ (List.mem_append_right _ h)) hown hK hP 0 rfl rfl 0 (by decide) (hts (.fieldLink RX8 7 "WinterWalkModel" "slot" "[I") (List.mem_of_getElem? (i := 1) rfl)) (fun _ h9 => h9) rfl dX8_mark21_20 ?_
  refine lv_bipush (v := 48) hx hb dX8_mark21_23 (by decide) ?_
  refine lv_iload_n hx hb dX8_mark21_25 rfl (lv_at hl 2 rfl) ?_
  refine lv_iadd hx hb dX8_mark21_26 ?_
  refine lv_topi (fun x_3 ex_3 => ?_)
  have e_3 : x_3.toInt = 48 + v.toInt := by rw [ex_3]; exact zi_add (by decide) (rfl) (by omega) (by omega)
  clear ex_3
  refine va_iald hx hb hK hP 1 0 rfl rfl (zi_in (by omega) (by omega)) dX8_mark21_27 ?_
  refine lv_topi (fun x_4 ex_4 => ?_)
  have f_4 : 0 ≤ x_4.toInt ∧ x_4.toInt ≤ 7 := by rw [ex_4]; exact si_a hsi (s := 0) (k := v.toInt) (by omega) (by omega) (by omega)
  clear ex_4
  refine lv_iadd hx hb dX8_mark21_28 ?_
  refine lv_topi (fun x_5 ex_5 => ?_)
  have e_5 : x_5.toInt = 23 + x_4.toInt := by rw [ex_5]; exact zi_add (by decide) (rfl) (by omega) (by omega)
  clear ex_5
  refine va_iald hx hb hK hP 1 0 rfl rfl (zi_in (by omega) (by omega)) dX8_mark21_29 ?_
  refine lv_topi (fun x_6 ex_6 => ?_)
  clear ex_6
  refine lv_iadd hx hb dX8_mark21_30 ?_
  refine lv_topi (fun x_7 ex_7 => ?_)
  clear ex_7
  exact wr_i (v := x_7) hx hb hr hlocks hS () (by trivial) (hP.sub [0, 1, 2] rfl) (hD.sub [0, 1, 2] (by decide) rfl) dX8_mark21_31
set_option maxHeartbeats 4000000 in
set_option maxRecDepth 100000 in
theorem t_X8_markOld_3_2 (l : Launch) (D : va_G) (cI cB cQ : ClassId) (sz : Nat) (h : Nat) (sl : Nat) (zs : Nat) (ln : Nat) (ir : Nat) (tk : Nat) (tb : Nat) (tr : Nat) (fz : Nat) (na : Int32) (su : Int32) (le : Int32) (fu : Int32) (ap : Int32) (pp : Int32) (nm : Int32) (v : Int32) (sf : Nat → Int32) (trf : Nat → Int32) (v0 : Int) (hsi : SI sf v0) (h_na : 0 ≤ na.toInt ∧ na.toInt ≤ 24) (h_le : 0 ≤ le.toInt ∧ le.toInt ≤ 120) (h_ap : 0 ≤ ap.toInt ∧ ap.toInt ≤ 120) (h_pp : 0 ≤ pp.toInt ∧ pp.toInt ≤ 120) (h_v : 0 ≤ v.toInt ∧ v.toInt ≤ 2) (h_kd : sf (20 + v.toNatClampNeg) = 3) : mi l yX8_markOld wsX8_markOld ({ frames := 3, cells := 0, slots := 0, locals := 64 }) D cI cB cQ [.ref h, .int v] sz [(h, .inr (7, [.ref sl, .int na, .ref zs, .ref ln, .ref ir, .ref tk, .int su, .int le, .ref tb, .int fu, .int ap, .int pp, .ref tr, .int 2, .ref fz, .int nm])), (sl, .inl (cI, 1653, .inl sf)), (tr, .inl (cI, 16, .inl trf))] (fun (r : Int32) (_u : Unit) => True) (fun _ => [(h, .inr (7, [.ref sl, .int na, .ref zs, .ref ln, .ref ir, .ref tk, .int su, .int le, .ref tb, .int fu, .int ap, .int pp, .ref tr, .int 5, .ref fz, .int nm])), (sl, .inl (cI, 1653, .inl sf)), (tr, .inl (cI, 16, .inl (upd (upd (upd trf (2 : Int32).toNatClampNeg 22) (3 : Int32).toNatClampNeg 21) (4 : Int32).toNatClampNeg 20)))]) 0 0 := by
  refine wm_i (cc := cX8_markOld) (maxL := 4) (ret := (some .int)) (by decide) rfl (Nat.le_of_ble_eq_true rfl) ?_
  intro p e s m below meth c A ls hx hb hr hml hown hts hlocks hin hP hK hD hN hA hl hS
  have hown : s.vm.findClass RX8 = some m.cls := hown
  have hl : lv_has ls 4 [(0, .ref h), (1, .int v)] := hl
  change W p l e ({ frames := 3, cells := 0, slots := 0, locals := 64 }) s m ([.ref h, .int v] : List Value).toArray below meth c s.heap [] 0 0 (MQ below (va_Qi (fun (r : Int32) (_u : Unit) => True) (fun u t => wb D A ((fun _ => [(h, .inr (7, [.ref sl, .int na, .ref zs, .ref ln, .ref ir, .ref tk, .int su, .int le, .ref tb, .int fu, .int ap, .int pp, .ref tr, .int 5, .ref fz, .int nm])), (sl, .inl (cI, 1653, .inl sf)), (tr, .inl (cI, 16, .inl (upd (upd (upd trf (2 : Int32).toNatClampNeg 22) (3 : Int32).toNatClampNeg 21) (4 : Int32).toNatClampNeg 20)))]) u) t) A) ([.ref h, .int v] : List Value).toArray s 0 0 A) (F0 m 0 ls [])
  refine lv_aload_n hx hb dX8_markOld_0 rfl (lv_at hl 0 rfl) ?_
  refine va_get (D := D) (ci := 7) (v := .ref sl) (C := RX8) (T := TX8) (N := 16) hx hb hts (fun _ h => List.mem_cons_of_mem _ (List.mem_append_right _ h)) hown hK hP 0 rfl rfl 0 (by decide) (hts (.fieldLink RX8 7 "WinterWalkModel" "slot" "[I") (List.mem_of_getElem? (i := 1) rfl)) (fun _ h9 => h9) rfl dX8_markOld_1 ?_
  refine lv_bipush (v := 20) hx hb dX8_markOld_4 (by decide) ?_
  refine lv_iload_n hx hb dX8_markOld_6 rfl (lv_at hl 1 rfl) ?_
  refine lv_iadd hx hb dX8_markOld_7 ?_
  refine lv_topi (fun x_1 ex_1 => ?_)
  have e_1 : x_1.toInt = 20 + v.toInt := by rw [ex_1]; exact zi_add (by decide) (rfl) (by omega) (by omega)
  clear ex_1
  refine va_iald hx hb hK hP 1 0 rfl rfl (zi_in (by omega) (by omega)) dX8_markOld_8 ?_
  refine lv_topi (fun x_2 ex_2 => ?_)
  obtain rfl : x_2 = 3 := ex_2.trans ((congrArg sf (show (x_1 : Int32).toNatClampNeg = 20 + v.toNatClampNeg from by have h9 := zi_cn (x := x_1) (by omega); have h8 := zi_cn (x := v) (by omega); omega)).trans h_kd)
  refine lv_istore_n (lv' := [(2, .int 3), (0, .ref h), (1, .int v)]) hx hb dX8_markOld_9 rfl hl (by decide) rfl (fun ls hl => ?_)
  refine lv_iload_n hx hb dX8_markOld_10 rfl (lv_at hl 0 rfl) ?_
  refine lv_iconst (v := 1) hx hb dX8_markOld_11 (by decide) ?_
  refine lv_icmp_ne (tgt := 21) hx hb dX8_markOld_12 (by decide) (fun _ => ?_) (fun c9 => absurd c9 (by decide))
  refine lv_aload_n hx hb dX8_markOld_21 rfl (lv_at hl 1 rfl) ?_
  refine lv_iload_n hx hb dX8_markOld_22 rfl (lv_at hl 0 rfl) ?_
  refine lv_iconst (v := 3) hx hb dX8_markOld_23 (by decide) ?_
  refine lv_icmp_ne (tgt := 32) hx hb dX8_markOld_24 (by decide) (fun c9 => absurd (by decide) c9) (fun _ => ?_)
  refine lv_bipush (v := 22) hx hb dX8_markOld_27 (by decide) ?_
  refine lv_goto (tgt := 34) hx hb dX8_markOld_29 (by decide) ?_
  have k_3 := (t_X8_begins_22_2 l D cI cB cQ s.heap.size h sl zs ln ir tk tb tr fz na su le fu ap pp nm trf (by omega) (by omega) (by omega) (by omega))
  refine wc_v (WC := [(h, .inr (7, [.ref sl, .int na, .ref zs, .ref ln, .ref ir, .ref tk, .int su, .int le, .ref tb, .int fu, .int ap, .int pp, .ref tr, .int 2, .ref fz, .int nm])), (tr, .inl (cI, 16, .inl trf))]) (WR := [(sl, .inl (cI, 1653, .inl sf))]) (va_runV (As := [.int 22]) (rest := []) ⟨hx, hb, hml, hown, hts⟩ k_3 (cwV 1 hts gX8_markOld_X8_begins rfl rfl rfl (by decide +kernel) ⟨Nat.le_of_ble_eq_true rfl, Nat.le_of_ble_eq_true rfl⟩) (wp_V hP hK hD hN [0, 2] (by decide) rfl (ci := 7) rfl rfl) rfl rfl hl.1 rfl (lv_room (Nat.le_of_ble_eq_true rfl)) dX8_markOld_34 ⟨Nat.le_of_ble_eq_true rfl, Nat.le_of_ble_eq_true rfl⟩) hP hD hS hA [0, 2] [1] rfl rfl (by decide) (by decide) (fun u_3 H locs hw_3 hP hD hS => ?_)
  clear k_3
  have hP : va_P D kl [(sl, .inl (cI, 1653, .inl sf)), (h, .inr (7, [.ref sl, .int na, .ref zs, .ref ln, .ref ir, .ref tk, .int su, .int le, .ref tb, .int fu, .int ap, .int pp, .ref tr, .int 3, .ref fz, .int nm])), (tr, .inl (cI, 16, .inl (upd trf (2 : Int32).toNatClampNeg 22)))] H := hP
  have hD : va_D A [(sl, .inl (cI, 1653, .inl sf)), (h, .inr (7, [.ref sl, .int na, .ref zs, .ref ln, .ref ir, .ref tk, .int su, .int le, .ref tb, .int fu, .int ap, .int pp, .ref tr, .int 3, .ref fz, .int nm])), (tr, .inl (cI, 16, .inl (upd trf (2 : Int32).toNatClampNeg 22)))] := hD
  clear hw_3
  refine lv_aload_n hx hb dX8_markOld_37 rfl (lv_at hl 1 rfl) ?_
  refine lv_iload_n hx hb dX8_markOld_38 rfl (lv_at hl 2 rfl) ?_
  have k_4 := (t_X8_mark21_0_3 l D cI cB cQ H.size h sl zs ln ir tk tb tr fz na su le fu ap pp nm v sf (upd trf (2 : Int32).toNatClampNeg 22) v0 hsi (by omega) (by omega) (by omega) (by omega) (by omega))
  refine wc_i (WC := [(h, .inr (7, [.ref sl, .int na, .ref zs, .ref ln, .ref ir, .ref tk, .int su, .int le, .ref tb, .int fu, .int ap, .int pp, .ref tr, .int 3, .ref fz, .int nm])), (sl, .inl (cI, 1653, .inl sf)), (tr, .inl (cI, 16, .inl (upd trf (2 : Int32).toNatClampNeg 22)))]) (WR := []) (va_runV (As := [.int v]) (rest := []) ⟨hx, hb, hml, hown, hts⟩ k_4 (cwV 1 hts gX8_markOld_X8_mark21 rfl rfl rfl (by decide +kernel) ⟨Nat.le_of_ble_eq_true rfl, Nat.le_of_ble_eq_true rfl⟩) (wp_V hP hK hD hN [1, 0, 2] (by decide) rfl (ci := 7) rfl rfl) rfl rfl hl.1 rfl (lv_room (Nat.le_of_ble_eq_true rfl)) dX8_markOld_39 ⟨Nat.le_of_ble_eq_true rfl, Nat.le_of_ble_eq_true rfl⟩) hP hD hS hA [1, 0, 2] [] rfl rfl (by decide) (by decide) (fun r_4 u_4 H locs hw_4 hP hD hS => ?_)
  clear k_4
  have hP : va_P D kl [(h, .inr (7, [.ref sl, .int na, .ref zs, .ref ln, .ref ir, .ref tk, .int su, .int le, .ref tb, .int fu, .int ap, .int pp, .ref tr, .int 5, .ref fz, .int nm])), (sl, .inl (cI, 1653, .inl sf)), (tr, .inl (cI, 16, .inl (upd (upd (upd trf (2 : Int32).toNatClampNeg 22) (3 : Int32).toNatClampNeg 21) (4 : Int32).toNatClampNeg 20)))] H := hP
  have hD : va_D A [(h, .inr (7, [.ref sl, .int na, .ref zs, .ref ln, .ref ir, .ref tk, .int su, .int le, .ref tb, .int fu, .int ap, .int pp, .ref tr, .int 5, .ref fz, .int nm])), (sl, .inl (cI, 1653, .inl sf)), (tr, .inl (cI, 16, .inl (upd (upd (upd trf (2 : Int32).toNatClampNeg 22) (3 : Int32).toNatClampNeg 21) (4 : Int32).toNatClampNeg 20)))] := hD
  clear hw_4
  refine lv_istore_n (lv' := [(3, .int r_4), (2, .int 3), (0, .ref h), (1, .int v)]) hx hb dX8_markOld_42 rfl hl (by decide) rfl (fun ls hl => ?_)
  refine lv_iload_n hx hb dX8_markOld_43 rfl (lv_at hl 1 rfl) ?_
  refine lv_iconst (v := 3) hx hb dX8_markOld_44 (by decide) ?_
  refine lv_icmp_ne (tgt := 56) hx hb dX8_markOld_45 (by decide) (fun c9 => absurd (by decide) c9) (fun _ => ?_)
  refine lv_iload_n hx hb dX8_markOld_48 rfl (lv_at hl 0 rfl) ?_
  refine lv_sipush (v := 1000) hx hb dX8_markOld_49 (by decide) ?_
  refine lv_isub hx hb dX8_markOld_52 ?_
  refine lv_topi (fun x_5 ex_5 => ?_)
  clear ex_5
  refine lv_goto (tgt := 59) hx hb dX8_markOld_53 (by decide) ?_
  exact wr_i (v := x_5) hx hb hr hlocks hS () (by trivial) (hP.sub [0, 1, 2] rfl) (hD.sub [0, 1, 2] (by decide) rfl) dX8_markOld_59
set_option maxHeartbeats 4000000 in
set_option maxRecDepth 100000 in
theorem t_X8_size11_3_0 (l : Launch) (D : va_G) (cI cB cQ : ClassId) (sz : Nat) (h : Nat) (sl : Nat) (zs : Nat) (ln : Nat) (ir : Nat) (tk : Nat) (tb : Nat) (tr : Nat) (fz : Nat) (na : Int32) (su : Int32) (le : Int32) (fu : Int32) (ap : Int32) (pp : Int32) (nm : Int32) (v : Int32) (sf : Nat → Int32) (trf : Nat → Int32) (v0 : Int) (hsi : SI sf v0) (h_na : 0 ≤ na.toInt ∧ na.toInt ≤ 24) (h_le : 0 ≤ le.toInt ∧ le.toInt ≤ 120) (h_ap : 0 ≤ ap.toInt ∧ ap.toInt ≤ 120) (h_pp : 0 ≤ pp.toInt ∧ pp.toInt ≤ 120) (h_v : 0 ≤ v.toInt ∧ v.toInt ≤ 2) (h_kd : sf (20 + v.toNatClampNeg) = 3) : mi l yX8_size11 wsX8_size11 ({ frames := 4, cells := 0, slots := 0, locals := 87 }) D cI cB cQ [.ref h, .int v] sz [(h, .inr (7, [.ref sl, .int na, .ref zs, .ref ln, .ref ir, .ref tk, .int su, .int le, .ref tb, .int fu, .int ap, .int pp, .ref tr, .int 0, .ref fz, .int nm])), (sl, .inl (cI, 1653, .inl sf)), (tr, .inl (cI, 16, .inl trf))] (fun (r : Int32) (_u : Unit) => True) (fun _ => [(h, .inr (7, [.ref sl, .int na, .ref zs, .ref ln, .ref ir, .ref tk, .int su, .int le, .ref tb, .int fu, .int ap, .int pp, .ref tr, .int 5, .ref fz, .int nm])), (sl, .inl (cI, 1653, .inl sf)), (tr, .inl (cI, 16, .inl (upd (upd (upd (upd (upd trf (0 : Int32).toNatClampNeg 11) (1 : Int32).toNatClampNeg 10) (2 : Int32).toNatClampNeg 22) (3 : Int32).toNatClampNeg 21) (4 : Int32).toNatClampNeg 20)))]) 0 0 := by
  refine wm_i (cc := cX8_size11) (maxL := 3) (ret := (some .int)) (by decide) rfl (Nat.le_of_ble_eq_true rfl) ?_
  intro p e s m below meth c A ls hx hb hr hml hown hts hlocks hin hP hK hD hN hA hl hS
  have hown : s.vm.findClass RX8 = some m.cls := hown
  have hl : lv_has ls 3 [(0, .ref h), (1, .int v)] := hl
  change W p l e ({ frames := 4, cells := 0, slots := 0, locals := 87 }) s m ([.ref h, .int v] : List Value).toArray below meth c s.heap [] 0 0 (MQ below (va_Qi (fun (r : Int32) (_u : Unit) => True) (fun u t => wb D A ((fun _ => [(h, .inr (7, [.ref sl, .int na, .ref zs, .ref ln, .ref ir, .ref tk, .int su, .int le, .ref tb, .int fu, .int ap, .int pp, .ref tr, .int 5, .ref fz, .int nm])), (sl, .inl (cI, 1653, .inl sf)), (tr, .inl (cI, 16, .inl (upd (upd (upd (upd (upd trf (0 : Int32).toNatClampNeg 11) (1 : Int32).toNatClampNeg 10) (2 : Int32).toNatClampNeg 22) (3 : Int32).toNatClampNeg 21) (4 : Int32).toNatClampNeg 20)))]) u) t) A) ([.ref h, .int v] : List Value).toArray s 0 0 A) (F0 m 0 ls [])
  refine lv_aload_n hx hb dX8_size11_0 rfl (lv_at hl 0 rfl) ?_
  refine lv_bipush (v := 11) hx hb dX8_size11_1 (by decide) ?_
  have k_1 := (t_X8_begins_11_0 l D cI cB cQ s.heap.size h sl zs ln ir tk tb tr fz na su le fu ap pp nm trf (by omega) (by omega) (by omega) (by omega))
  refine wc_v (WC := [(h, .inr (7, [.ref sl, .int na, .ref zs, .ref ln, .ref ir, .ref tk, .int su, .int le, .ref tb, .int fu, .int ap, .int pp, .ref tr, .int 0, .ref fz, .int nm])), (tr, .inl (cI, 16, .inl trf))]) (WR := [(sl, .inl (cI, 1653, .inl sf))]) (va_runV (As := [.int 11]) (rest := []) ⟨hx, hb, hml, hown, hts⟩ k_1 (cwV 1 hts gX8_size11_X8_begins rfl rfl rfl (by decide +kernel) ⟨Nat.le_of_ble_eq_true rfl, Nat.le_of_ble_eq_true rfl⟩) (wp_V hP hK hD hN [0, 2] (by decide) rfl (ci := 7) rfl rfl) rfl rfl hl.1 rfl (lv_room (Nat.le_of_ble_eq_true rfl)) dX8_size11_3 ⟨Nat.le_of_ble_eq_true rfl, Nat.le_of_ble_eq_true rfl⟩) hP hD hS hA [0, 2] [1] rfl rfl (by decide) (by decide) (fun u_1 H locs hw_1 hP hD hS => ?_)
  clear k_1
  have hP : va_P D kl [(sl, .inl (cI, 1653, .inl sf)), (h, .inr (7, [.ref sl, .int na, .ref zs, .ref ln, .ref ir, .ref tk, .int su, .int le, .ref tb, .int fu, .int ap, .int pp, .ref tr, .int 1, .ref fz, .int nm])), (tr, .inl (cI, 16, .inl (upd trf (0 : Int32).toNatClampNeg 11)))] H := hP
  have hD : va_D A [(sl, .inl (cI, 1653, .inl sf)), (h, .inr (7, [.ref sl, .int na, .ref zs, .ref ln, .ref ir, .ref tk, .int su, .int le, .ref tb, .int fu, .int ap, .int pp, .ref tr, .int 1, .ref fz, .int nm])), (tr, .inl (cI, 16, .inl (upd trf (0 : Int32).toNatClampNeg 11)))] := hD
  clear hw_1
  refine lv_aload_n hx hb dX8_size11_6 rfl (lv_at hl 0 rfl) ?_
  refine lv_iload_n hx hb dX8_size11_7 rfl (lv_at hl 1 rfl) ?_
  have k_2 := (t_X8_size10_0_1 l D cI cB cQ H.size h sl zs ln ir tk tb tr fz na su le fu ap pp nm v sf (upd trf (0 : Int32).toNatClampNeg 11) v0 hsi (by omega) (by omega) (by omega) (by omega) (by omega))
  refine wc_i (WC := [(h, .inr (7, [.ref sl, .int na, .ref zs, .ref ln, .ref ir, .ref tk, .int su, .int le, .ref tb, .int fu, .int ap, .int pp, .ref tr, .int 1, .ref fz, .int nm])), (sl, .inl (cI, 1653, .inl sf)), (tr, .inl (cI, 16, .inl (upd trf (0 : Int32).toNatClampNeg 11)))]) (WR := []) (va_runV (As := [.int v]) (rest := []) ⟨hx, hb, hml, hown, hts⟩ k_2 (cwV 1 hts gX8_size11_X8_size10 rfl rfl rfl (by decide +kernel) ⟨Nat.le_of_ble_eq_true rfl, Nat.le_of_ble_eq_true rfl⟩) (wp_V hP hK hD hN [1, 0, 2] (by decide) rfl (ci := 7) rfl rfl) rfl rfl hl.1 rfl (lv_room (Nat.le_of_ble_eq_true rfl)) dX8_size11_8 ⟨Nat.le_of_ble_eq_true rfl, Nat.le_of_ble_eq_true rfl⟩) hP hD hS hA [1, 0, 2] [] rfl rfl (by decide) (by decide) (fun r_2 u_2 H locs hw_2 hP hD hS => ?_)
  clear k_2
  have hP : va_P D kl [(h, .inr (7, [.ref sl, .int na, .ref zs, .ref ln, .ref ir, .ref tk, .int su, .int le, .ref tb, .int fu, .int ap, .int pp, .ref tr, .int 2, .ref fz, .int nm])), (sl, .inl (cI, 1653, .inl sf)), (tr, .inl (cI, 16, .inl (upd (upd trf (0 : Int32).toNatClampNeg 11) (1 : Int32).toNatClampNeg 10)))] H := hP
  have hD : va_D A [(h, .inr (7, [.ref sl, .int na, .ref zs, .ref ln, .ref ir, .ref tk, .int su, .int le, .ref tb, .int fu, .int ap, .int pp, .ref tr, .int 2, .ref fz, .int nm])), (sl, .inl (cI, 1653, .inl sf)), (tr, .inl (cI, 16, .inl (upd (upd trf (0 : Int32).toNatClampNeg 11) (1 : Int32).toNatClampNeg 10)))] := hD
  clear hw_2
  refine lv_istore_n (lv' := [(2, .int r_2), (0, .ref h), (1, .int v)]) hx hb dX8_size11_11 rfl hl (by decide) rfl (fun ls hl => ?_)
  refine lv_iload_n hx hb dX8_size11_12 rfl (lv_at hl 0 rfl) ?_
  refine lv_aload_n hx hb dX8_size11_13 rfl (lv_at hl 1 rfl) ?_
  refine lv_iload_n hx hb dX8_size11_14 rfl (lv_at hl 2 rfl) ?_
  have k_3 := (t_X8_markOld_3_2 l D cI cB cQ H.size h sl zs ln ir tk tb tr fz na su le fu ap pp nm v sf (upd (upd trf (0 : Int32).toNatClampNeg 11) (1 : Int32).toNatClampNeg 10) v0 hsi (by omega) (by omega) (by omega) (by omega) (by omega) (h_kd))
  refine wc_i (WC := [(h, .inr (7, [.ref sl, .int na, .ref zs, .ref ln, .ref ir, .ref tk, .int su, .int le, .ref tb, .int fu, .int ap, .int pp, .ref tr, .int 2, .ref fz, .int nm])), (sl, .inl (cI, 1653, .inl sf)), (tr, .inl (cI, 16, .inl (upd (upd trf (0 : Int32).toNatClampNeg 11) (1 : Int32).toNatClampNeg 10)))]) (WR := []) (va_runV (As := [.int v]) (rest := [.int r_2]) ⟨hx, hb, hml, hown, hts⟩ k_3 (cwV 1 hts gX8_size11_X8_markOld rfl rfl rfl (by decide +kernel) ⟨Nat.le_of_ble_eq_true rfl, Nat.le_of_ble_eq_true rfl⟩) (wp_V hP hK hD hN [0, 1, 2] (by decide) rfl (ci := 7) rfl rfl) rfl rfl hl.1 rfl (lv_room (Nat.le_of_ble_eq_true rfl)) dX8_size11_15 ⟨Nat.le_of_ble_eq_true rfl, Nat.le_of_ble_eq_true rfl⟩) hP hD hS hA [0, 1, 2] [] rfl rfl (by decide) (by decide) (fun r_3 u_3 H locs hw_3 hP hD hS => ?_)
  clear k_3
  have hP : va_P D kl [(h, .inr (7, [.ref sl, .int na, .ref zs, .ref ln, .ref ir, .ref tk, .int su, .int le, .ref tb, .int fu, .int ap, .int pp, .ref tr, .int 5, .ref fz, .int nm])), (sl, .inl (cI, 1653, .inl sf)), (tr, .inl (cI, 16, .inl (upd (upd (upd (upd (upd trf (0 : Int32).toNatClampNeg 11) (1 : Int32).toNatClampNeg 10) (2 : Int32).toNatClampNeg 22) (3 : Int32).toNatClampNeg 21) (4 : Int32).toNatClampNeg 20)))] H := hP
  have hD : va_D A [(h, .inr (7, [.ref sl, .int na, .ref zs, .ref ln, .ref ir, .ref tk, .int su, .int le, .ref tb, .int fu, .int ap, .int pp, .ref tr, .int 5, .ref fz, .int nm])), (sl, .inl (cI, 1653, .inl sf)), (tr, .inl (cI, 16, .inl (upd (upd (upd (upd (upd trf (0 : Int32).toNatClampNeg 11) (1 : Int32).toNatClampNeg 10) (2 : Int32).toNatClampNeg 22) (3 : Int32).toNatClampNeg 21) (4 : Int32).toNatClampNeg 20)))] := hD
  clear hw_3
  refine lv_iadd hx hb dX8_size11_18 ?_
  refine lv_topi (fun x_4 ex_4 => ?_)
  clear ex_4
  exact wr_i (v := x_4) hx hb hr hlocks hS () (by trivial) (hP.sub [0, 1, 2] rfl) (hD.sub [0, 1, 2] (by decide) rfl) dX8_size11_19
set_option maxHeartbeats 4000000 in
set_option maxRecDepth 100000 in
theorem t_X8_sizeOf_3_0 (l : Launch) (D : va_G) (cI cB cQ : ClassId) (sz : Nat) (h : Nat) (sl : Nat) (zs : Nat) (ln : Nat) (ir : Nat) (tk : Nat) (tb : Nat) (tr : Nat) (fz : Nat) (na : Int32) (su : Int32) (le : Int32) (fu : Int32) (ap : Int32) (pp : Int32) (nm : Int32) (v : Int32) (sf : Nat → Int32) (trf : Nat → Int32) (v0 : Int) (hsi : SI sf v0) (h_na : 0 ≤ na.toInt ∧ na.toInt ≤ 24) (h_le : 0 ≤ le.toInt ∧ le.toInt ≤ 120) (h_ap : 0 ≤ ap.toInt ∧ ap.toInt ≤ 120) (h_pp : 0 ≤ pp.toInt ∧ pp.toInt ≤ 120) (h_v : 0 ≤ v.toInt ∧ v.toInt ≤ 2) (h_kd : sf (20 + v.toNatClampNeg) = 3) : mi l yX8_sizeOf wsX8_sizeOf ({ frames := 5, cells := 0, slots := 0, locals := 109 }) D cI cB cQ [.ref h, .int v] sz [(h, .inr (7, [.ref sl, .int na, .ref zs, .ref ln, .ref ir, .ref tk, .int su, .int le, .ref tb, .int fu, .int ap, .int pp, .ref tr, .int 0, .ref fz, .int nm])), (sl, .inl (cI, 1653, .inl sf)), (tr, .inl (cI, 16, .inl trf))] (fun (r : Int32) (_u : Unit) => True) (fun _ => [(h, .inr (7, [.ref sl, .int na, .ref zs, .ref ln, .ref ir, .ref tk, .int su, .int le, .ref tb, .int fu, .int ap, .int pp, .ref tr, .int 5, .ref fz, .int nm])), (sl, .inl (cI, 1653, .inl sf)), (tr, .inl (cI, 16, .inl (upd (upd (upd (upd (upd trf (0 : Int32).toNatClampNeg 11) (1 : Int32).toNatClampNeg 10) (2 : Int32).toNatClampNeg 22) (3 : Int32).toNatClampNeg 21) (4 : Int32).toNatClampNeg 20)))]) 0 0 := by
  refine wm_i (cc := cX8_sizeOf) (maxL := 3) (ret := (some .int)) (by decide) rfl (Nat.le_of_ble_eq_true rfl) ?_
  intro p e s m below meth c A ls hx hb hr hml hown hts hlocks hin hP hK hD hN hA hl hS
  have hown : s.vm.findClass RX8 = some m.cls := hown
  have hl : lv_has ls 3 [(0, .ref h), (1, .int v)] := hl
  change W p l e ({ frames := 5, cells := 0, slots := 0, locals := 109 }) s m ([.ref h, .int v] : List Value).toArray below meth c s.heap [] 0 0 (MQ below (va_Qi (fun (r : Int32) (_u : Unit) => True) (fun u t => wb D A ((fun _ => [(h, .inr (7, [.ref sl, .int na, .ref zs, .ref ln, .ref ir, .ref tk, .int su, .int le, .ref tb, .int fu, .int ap, .int pp, .ref tr, .int 5, .ref fz, .int nm])), (sl, .inl (cI, 1653, .inl sf)), (tr, .inl (cI, 16, .inl (upd (upd (upd (upd (upd trf (0 : Int32).toNatClampNeg 11) (1 : Int32).toNatClampNeg 10) (2 : Int32).toNatClampNeg 22) (3 : Int32).toNatClampNeg 21) (4 : Int32).toNatClampNeg 20)))]) u) t) A) ([.ref h, .int v] : List Value).toArray s 0 0 A) (F0 m 0 ls [])
  refine lv_aload_n hx hb dX8_sizeOf_0 rfl (lv_at hl 0 rfl) ?_
  refine va_get (D := D) (ci := 7) (v := .ref sl) (C := RX8) (T := TX8) (N := 16) hx hb hts (fun _ h => List.mem_cons_of_mem _ (List.mem_append_right _ h)) hown hK hP 0 rfl rfl 0 (by decide) (hts (.fieldLink RX8 7 "WinterWalkModel" "slot" "[I") (List.mem_of_getElem? (i := 1) rfl)) (fun _ h9 => h9) rfl dX8_sizeOf_1 ?_
  refine lv_bipush (v := 20) hx hb dX8_sizeOf_4 (by decide) ?_
  refine lv_iload_n hx hb dX8_sizeOf_6 rfl (lv_at hl 1 rfl) ?_
  refine lv_iadd hx hb dX8_sizeOf_7 ?_
  refine lv_topi (fun x_1 ex_1 => ?_)
  have e_1 : x_1.toInt = 20 + v.toInt := by rw [ex_1]; exact zi_add (by decide) (rfl) (by omega) (by omega)
  clear ex_1
  refine va_iald hx hb hK hP 1 0 rfl rfl (zi_in (by omega) (by omega)) dX8_sizeOf_8 ?_
  refine lv_topi (fun x_2 ex_2 => ?_)
  obtain rfl : x_2 = 3 := ex_2.trans ((congrArg sf (show (x_1 : Int32).toNatClampNeg = 20 + v.toNatClampNeg from by have h9 := zi_cn (x := x_1) (by omega); have h8 := zi_cn (x := v) (by omega); omega)).trans h_kd)
  refine lv_istore_n (lv' := [(2, .int 3), (0, .ref h), (1, .int v)]) hx hb dX8_sizeOf_9 rfl hl (by decide) rfl (fun ls hl => ?_)
  refine lv_iload_n hx hb dX8_sizeOf_10 rfl (lv_at hl 0 rfl) ?_
  refine lv_iconst (v := 1) hx hb dX8_sizeOf_11 (by decide) ?_
  refine lv_icmp_eq (tgt := 20) hx hb dX8_sizeOf_12 (by decide) (fun c9 => absurd c9 (by decide)) (fun _ => ?_)
  refine lv_iload_n hx hb dX8_sizeOf_15 rfl (lv_at hl 0 rfl) ?_
  refine lv_iconst (v := 3) hx hb dX8_sizeOf_16 (by decide) ?_
  refine lv_icmp_ne (tgt := 26) hx hb dX8_sizeOf_17 (by decide) (fun c9 => absurd (by decide) c9) (fun _ => ?_)
  refine lv_aload_n hx hb dX8_sizeOf_20 rfl (lv_at hl 1 rfl) ?_
  refine lv_iload_n hx hb dX8_sizeOf_21 rfl (lv_at hl 2 rfl) ?_
  have k_3 := (t_X8_size11_3_0 l D cI cB cQ s.heap.size h sl zs ln ir tk tb tr fz na su le fu ap pp nm v sf trf v0 hsi (by omega) (by omega) (by omega) (by omega) (by omega) (h_kd))
  refine wc_i (WC := [(h, .inr (7, [.ref sl, .int na, .ref zs, .ref ln, .ref ir, .ref tk, .int su, .int le, .ref tb, .int fu, .int ap, .int pp, .ref tr, .int 0, .ref fz, .int nm])), (sl, .inl (cI, 1653, .inl sf)), (tr, .inl (cI, 16, .inl trf))]) (WR := []) (va_runV (As := [.int v]) (rest := []) ⟨hx, hb, hml, hown, hts⟩ k_3 (cwV 1 hts gX8_sizeOf_X8_size11 rfl rfl rfl (by decide +kernel) ⟨Nat.le_of_ble_eq_true rfl, Nat.le_of_ble_eq_true rfl⟩) (wp_V hP hK hD hN [0, 1, 2] (by decide) rfl (ci := 7) rfl rfl) rfl rfl hl.1 rfl (lv_room (Nat.le_of_ble_eq_true rfl)) dX8_sizeOf_22 ⟨Nat.le_of_ble_eq_true rfl, Nat.le_of_ble_eq_true rfl⟩) hP hD hS hA [0, 1, 2] [] rfl rfl (by decide) (by decide) (fun r_3 u_3 H locs hw_3 hP hD hS => ?_)
  clear k_3
  have hP : va_P D kl [(h, .inr (7, [.ref sl, .int na, .ref zs, .ref ln, .ref ir, .ref tk, .int su, .int le, .ref tb, .int fu, .int ap, .int pp, .ref tr, .int 5, .ref fz, .int nm])), (sl, .inl (cI, 1653, .inl sf)), (tr, .inl (cI, 16, .inl (upd (upd (upd (upd (upd trf (0 : Int32).toNatClampNeg 11) (1 : Int32).toNatClampNeg 10) (2 : Int32).toNatClampNeg 22) (3 : Int32).toNatClampNeg 21) (4 : Int32).toNatClampNeg 20)))] H := hP
  have hD : va_D A [(h, .inr (7, [.ref sl, .int na, .ref zs, .ref ln, .ref ir, .ref tk, .int su, .int le, .ref tb, .int fu, .int ap, .int pp, .ref tr, .int 5, .ref fz, .int nm])), (sl, .inl (cI, 1653, .inl sf)), (tr, .inl (cI, 16, .inl (upd (upd (upd (upd (upd trf (0 : Int32).toNatClampNeg 11) (1 : Int32).toNatClampNeg 10) (2 : Int32).toNatClampNeg 22) (3 : Int32).toNatClampNeg 21) (4 : Int32).toNatClampNeg 20)))] := hD
  clear hw_3
  exact wr_i (v := r_3) hx hb hr hlocks hS () (by trivial) (hP.sub [0, 1, 2] rfl) (hD.sub [0, 1, 2] (by decide) rfl) dX8_sizeOf_25
set_option maxHeartbeats 4000000 in
set_option maxRecDepth 100000 in
theorem t_X8_begins_22_0 (l : Launch) (D : va_G) (cI cB cQ : ClassId) (sz : Nat) (h : Nat) (sl : Nat) (zs : Nat) (ln : Nat) (ir : Nat) (tk : Nat) (tb : Nat) (tr : Nat) (fz : Nat) (na : Int32) (su : Int32) (le : Int32) (fu : Int32) (ap : Int32) (pp : Int32) (nm : Int32) (trf : Nat → Int32) (h_na : 0 ≤ na.toInt ∧ na.toInt ≤ 24) (h_le : 0 ≤ le.toInt ∧ le.toInt ≤ 120) (h_ap : 0 ≤ ap.toInt ∧ ap.toInt ≤ 120) (h_pp : 0 ≤ pp.toInt ∧ pp.toInt ≤ 120) : mv l yX8_begins wsX8_begins ({ frames := 0, cells := 0, slots := 0, locals := 0 }) D cI cB cQ [.ref h, .int 22] sz [(h, .inr (7, [.ref sl, .int na, .ref zs, .ref ln, .ref ir, .ref tk, .int su, .int le, .ref tb, .int fu, .int ap, .int pp, .ref tr, .int 0, .ref fz, .int nm])), (tr, .inl (cI, 16, .inl trf))] (fun (_u : Unit) => True) (fun _ => [(h, .inr (7, [.ref sl, .int na, .ref zs, .ref ln, .ref ir, .ref tk, .int su, .int le, .ref tb, .int fu, .int ap, .int pp, .ref tr, .int 1, .ref fz, .int nm])), (tr, .inl (cI, 16, .inl (upd trf (0 : Int32).toNatClampNeg 22)))]) 0 0 := by
  refine wm_v (cc := cX8_begins) (maxL := 2) (ret := none) (by decide) rfl (Nat.le_of_ble_eq_true rfl) ?_
  intro p e s m below meth c A ls hx hb hr hml hown hts hlocks hin hP hK hD hN hA hl hS
  have hown : s.vm.findClass RX8 = some m.cls := hown
  have hl : lv_has ls 2 [(0, .ref h), (1, .int 22)] := hl
  change W p l e ({ frames := 0, cells := 0, slots := 0, locals := 0 }) s m ([.ref h, .int 22] : List Value).toArray below meth c s.heap [] 0 0 (MQ below (va_Qv (fun (_u : Unit) => True) (fun u t => wb D A ((fun _ => [(h, .inr (7, [.ref sl, .int na, .ref zs, .ref ln, .ref ir, .ref tk, .int su, .int le, .ref tb, .int fu, .int ap, .int pp, .ref tr, .int 1, .ref fz, .int nm])), (tr, .inl (cI, 16, .inl (upd trf (0 : Int32).toNatClampNeg 22)))]) u) t) A) ([.ref h, .int 22] : List Value).toArray s 0 0 A) (F0 m 0 ls [])
  refine lv_aload_n hx hb dX8_begins_0 rfl (lv_at hl 0 rfl) ?_
  refine va_get (D := D) (ci := 7) (v := .int 0) (C := RX8) (T := TX8) (N := 16) hx hb hts (fun _ h => List.mem_cons_of_mem _ (List.mem_append_right _ h)) hown hK hP 0 rfl rfl 13 (by decide) (hts (.fieldLink RX8 208 "WinterWalkModel" "traced" "I") (List.mem_of_getElem? (i := 1) rfl)) (fun _ h9 => h9) rfl dX8_begins_1 ?_
  refine lv_bipush (v := 16) hx hb dX8_begins_4 (by decide) ?_
  refine lv_icmp_ge (tgt := 29) hx hb dX8_begins_6 (by decide) (fun c9 => absurd c9 (by decide)) (fun _ => ?_)
  refine lv_aload_n hx hb dX8_begins_9 rfl (lv_at hl 0 rfl) ?_
  refine va_get (D := D) (ci := 7) (v := .ref tr) (C := RX8) (T := TX8) (N := 16) hx hb hts (fun _ h => List.mem_cons_of_mem _ (List.mem_append_right _ h)) hown hK hP 0 rfl rfl 12 (by decide) (hts (.fieldLink RX8 29 "WinterWalkModel" "trace" "[I") (List.mem_of_getElem? (i := 2) rfl)) (fun _ h9 => h9) rfl dX8_begins_10 ?_
  refine lv_aload_n hx hb dX8_begins_13 rfl (lv_at hl 0 rfl) ?_
  refine va_get (D := D) (ci := 7) (v := .int 0) (C := RX8) (T := TX8) (N := 16) hx hb hts (fun _ h => List.mem_cons_of_mem _ (List.mem_append_right _ h)) hown hK hP 0 rfl rfl 13 (by decide) (hts (.fieldLink RX8 208 "WinterWalkModel" "traced" "I") (List.mem_of_getElem? (i := 1) rfl)) (fun _ h9 => h9) rfl dX8_begins_14 ?_
  refine lv_iload_n hx hb dX8_begins_17 rfl (lv_at hl 1 rfl) ?_
  refine va_iast hx hb hK hP hD hS 1 0 rfl rfl (zi_in (by decide) (by decide)) dX8_begins_18 (fun H locs hP hD hS => ?_)
  have hP : va_P D kl [(h, .inr (7, [.ref sl, .int na, .ref zs, .ref ln, .ref ir, .ref tk, .int su, .int le, .ref tb, .int fu, .int ap, .int pp, .ref tr, .int 0, .ref fz, .int nm])), (tr, .inl (cI, 16, .inl (upd trf (0 : Int32).toNatClampNeg 22)))] H := hP
  have hD : va_D A [(h, .inr (7, [.ref sl, .int na, .ref zs, .ref ln, .ref ir, .ref tk, .int su, .int le, .ref tb, .int fu, .int ap, .int pp, .ref tr, .int 0, .ref fz, .int nm])), (tr, .inl (cI, 16, .inl (upd trf (0 : Int32).toNatClampNeg 22)))] := hD
  refine lv_aload_n hx hb dX8_begins_19 rfl (lv_at hl 0 rfl) ?_
  refine lv_dup hx hb dX8_begins_20 rfl ?_
  refine va_get (D := D) (ci := 7) (v := .int 0) (C := RX8) (T := TX8) (N := 16) hx hb hts (fun _ h => List.mem_cons_of_mem _ (List.mem_append_right _ h)) hown hK hP 0 rfl rfl 13 (by decide) (hts (.fieldLink RX8 208 "WinterWalkModel" "traced" "I") (List.mem_of_getElem? (i := 1) rfl)) (fun _ h9 => h9) rfl dX8_begins_21 ?_
  refine lv_iconst (v := 1) hx hb dX8_begins_24 (by decide) ?_
  refine lv_iadd hx hb dX8_begins_25 ?_
  refine lv_topi (fun x_1 ex_1 => ?_)
  obtain rfl : x_1 = 1 := ex_1.trans (by decide)
  refine va_put (D := D) (ci := 7) (v := .int 1) (ty := .int) (C := RX8) (T := TX8) (N := 16) hx hb hts (fun _ h => List.mem_cons_of_mem _ (List.mem_append_right _ h)) tyX8 tyX8_ok nmX8 hown hK hP hD hS 0 rfl rfl 13 (by decide) (hts (.fieldLink RX8 208 "WinterWalkModel" "traced" "I") (List.mem_of_getElem? (i := 1) rfl)) (fun _ h9 => h9) rfl (by decide +kernel) rfl rfl (Nat.le_of_ble_eq_true rfl) dX8_begins_26 (fun H locs hP hD hS => ?_)
  have hP : va_P D kl [(h, .inr (7, [.ref sl, .int na, .ref zs, .ref ln, .ref ir, .ref tk, .int su, .int le, .ref tb, .int fu, .int ap, .int pp, .ref tr, .int 1, .ref fz, .int nm])), (tr, .inl (cI, 16, .inl (upd trf (0 : Int32).toNatClampNeg 22)))] H := hP
  have hD : va_D A [(h, .inr (7, [.ref sl, .int na, .ref zs, .ref ln, .ref ir, .ref tk, .int su, .int le, .ref tb, .int fu, .int ap, .int pp, .ref tr, .int 1, .ref fz, .int nm])), (tr, .inl (cI, 16, .inl (upd trf (0 : Int32).toNatClampNeg 22)))] := hD
  exact wr_v hx hb hr hlocks hS () (by trivial) (hP.sub [0, 1] rfl) (hD.sub [0, 1] (by decide) rfl) dX8_begins_29
set_option maxHeartbeats 4000000 in
set_option maxRecDepth 100000 in
theorem t_X8_markOld_3_0 (l : Launch) (D : va_G) (cI cB cQ : ClassId) (sz : Nat) (h : Nat) (sl : Nat) (zs : Nat) (ln : Nat) (ir : Nat) (tk : Nat) (tb : Nat) (tr : Nat) (fz : Nat) (na : Int32) (su : Int32) (le : Int32) (fu : Int32) (ap : Int32) (pp : Int32) (nm : Int32) (v : Int32) (sf : Nat → Int32) (trf : Nat → Int32) (v0 : Int) (hsi : SI sf v0) (h_na : 0 ≤ na.toInt ∧ na.toInt ≤ 24) (h_le : 0 ≤ le.toInt ∧ le.toInt ≤ 120) (h_ap : 0 ≤ ap.toInt ∧ ap.toInt ≤ 120) (h_pp : 0 ≤ pp.toInt ∧ pp.toInt ≤ 120) (h_v : 0 ≤ v.toInt ∧ v.toInt ≤ 2) (h_kd : sf (20 + v.toNatClampNeg) = 3) : mi l yX8_markOld wsX8_markOld ({ frames := 3, cells := 0, slots := 0, locals := 64 }) D cI cB cQ [.ref h, .int v] sz [(h, .inr (7, [.ref sl, .int na, .ref zs, .ref ln, .ref ir, .ref tk, .int su, .int le, .ref tb, .int fu, .int ap, .int pp, .ref tr, .int 0, .ref fz, .int nm])), (sl, .inl (cI, 1653, .inl sf)), (tr, .inl (cI, 16, .inl trf))] (fun (r : Int32) (_u : Unit) => True) (fun _ => [(h, .inr (7, [.ref sl, .int na, .ref zs, .ref ln, .ref ir, .ref tk, .int su, .int le, .ref tb, .int fu, .int ap, .int pp, .ref tr, .int 3, .ref fz, .int nm])), (sl, .inl (cI, 1653, .inl sf)), (tr, .inl (cI, 16, .inl (upd (upd (upd trf (0 : Int32).toNatClampNeg 22) (1 : Int32).toNatClampNeg 21) (2 : Int32).toNatClampNeg 20)))]) 0 0 := by
  refine wm_i (cc := cX8_markOld) (maxL := 4) (ret := (some .int)) (by decide) rfl (Nat.le_of_ble_eq_true rfl) ?_
  intro p e s m below meth c A ls hx hb hr hml hown hts hlocks hin hP hK hD hN hA hl hS
  have hown : s.vm.findClass RX8 = some m.cls := hown
  have hl : lv_has ls 4 [(0, .ref h), (1, .int v)] := hl
  change W p l e ({ frames := 3, cells := 0, slots := 0, locals := 64 }) s m ([.ref h, .int v] : List Value).toArray below meth c s.heap [] 0 0 (MQ below (va_Qi (fun (r : Int32) (_u : Unit) => True) (fun u t => wb D A ((fun _ => [(h, .inr (7, [.ref sl, .int na, .ref zs, .ref ln, .ref ir, .ref tk, .int su, .int le, .ref tb, .int fu, .int ap, .int pp, .ref tr, .int 3, .ref fz, .int nm])), (sl, .inl (cI, 1653, .inl sf)), (tr, .inl (cI, 16, .inl (upd (upd (upd trf (0 : Int32).toNatClampNeg 22) (1 : Int32).toNatClampNeg 21) (2 : Int32).toNatClampNeg 20)))]) u) t) A) ([.ref h, .int v] : List Value).toArray s 0 0 A) (F0 m 0 ls [])
  refine lv_aload_n hx hb dX8_markOld_0 rfl (lv_at hl 0 rfl) ?_
  refine va_get (D := D) (ci := 7) (v := .ref sl) (C := RX8) (T := TX8) (N := 16) hx hb hts (fun _ h => List.mem_cons_of_mem _ (List.mem_append_right _ h)) hown hK hP 0 rfl rfl 0 (by decide) (hts (.fieldLink RX8 7 "WinterWalkModel" "slot" "[I") (List.mem_of_getElem? (i := 1) rfl)) (fun _ h9 => h9) rfl dX8_markOld_1 ?_
  refine lv_bipush (v := 20) hx hb dX8_markOld_4 (by decide) ?_
  refine lv_iload_n hx hb dX8_markOld_6 rfl (lv_at hl 1 rfl) ?_
  refine lv_iadd hx hb dX8_markOld_7 ?_
  refine lv_topi (fun x_1 ex_1 => ?_)
  have e_1 : x_1.toInt = 20 + v.toInt := by rw [ex_1]; exact zi_add (by decide) (rfl) (by omega) (by omega)
  clear ex_1
  refine va_iald hx hb hK hP 1 0 rfl rfl (zi_in (by omega) (by omega)) dX8_markOld_8 ?_
  refine lv_topi (fun x_2 ex_2 => ?_)
  obtain rfl : x_2 = 3 := ex_2.trans ((congrArg sf (show (x_1 : Int32).toNatClampNeg = 20 + v.toNatClampNeg from by have h9 := zi_cn (x := x_1) (by omega); have h8 := zi_cn (x := v) (by omega); omega)).trans h_kd)
  refine lv_istore_n (lv' := [(2, .int 3), (0, .ref h), (1, .int v)]) hx hb dX8_markOld_9 rfl hl (by decide) rfl (fun ls hl => ?_)
  refine lv_iload_n hx hb dX8_markOld_10 rfl (lv_at hl 0 rfl) ?_
  refine lv_iconst (v := 1) hx hb dX8_markOld_11 (by decide) ?_
  refine lv_icmp_ne (tgt := 21) hx hb dX8_markOld_12 (by decide) (fun _ => ?_) (fun c9 => absurd c9 (by decide))
  refine lv_aload_n hx hb dX8_markOld_21 rfl (lv_at hl 1 rfl) ?_
  refine lv_iload_n hx hb dX8_markOld_22 rfl (lv_at hl 0 rfl) ?_
  refine lv_iconst (v := 3) hx hb dX8_markOld_23 (by decide) ?_
  refine lv_icmp_ne (tgt := 32) hx hb dX8_markOld_24 (by decide) (fun c9 => absurd (by decide) c9) (fun _ => ?_)
  refine lv_bipush (v := 22) hx hb dX8_markOld_27 (by decide) ?_
  refine lv_goto (tgt := 34) hx hb dX8_markOld_29 (by decide) ?_
  have k_3 := (t_X8_begins_22_0 l D cI cB cQ s.heap.size h sl zs ln ir tk tb tr fz na su le fu ap pp nm trf (by omega) (by omega) (by omega) (by omega))
  refine wc_v (WC := [(h, .inr (7, [.ref sl, .int na, .ref zs, .ref ln, .ref ir, .ref tk, .int su, .int le, .ref tb, .int fu, .int ap, .int pp, .ref tr, .int 0, .ref fz, .int nm])), (tr, .inl (cI, 16, .inl trf))]) (WR := [(sl, .inl (cI, 1653, .inl sf))]) (va_runV (As := [.int 22]) (rest := []) ⟨hx, hb, hml, hown, hts⟩ k_3 (cwV 1 hts gX8_markOld_X8_begins rfl rfl rfl (by decide +kernel) ⟨Nat.le_of_ble_eq_true rfl, Nat.le_of_ble_eq_true rfl⟩) (wp_V hP hK hD hN [0, 2] (by decide) rfl (ci := 7) rfl rfl) rfl rfl hl.1 rfl (lv_room (Nat.le_of_ble_eq_true rfl)) dX8_markOld_34 ⟨Nat.le_of_ble_eq_true rfl, Nat.le_of_ble_eq_true rfl⟩) hP hD hS hA [0, 2] [1] rfl rfl (by decide) (by decide) (fun u_3 H locs hw_3 hP hD hS => ?_)
  clear k_3
  have hP : va_P D kl [(sl, .inl (cI, 1653, .inl sf)), (h, .inr (7, [.ref sl, .int na, .ref zs, .ref ln, .ref ir, .ref tk, .int su, .int le, .ref tb, .int fu, .int ap, .int pp, .ref tr, .int 1, .ref fz, .int nm])), (tr, .inl (cI, 16, .inl (upd trf (0 : Int32).toNatClampNeg 22)))] H := hP
  have hD : va_D A [(sl, .inl (cI, 1653, .inl sf)), (h, .inr (7, [.ref sl, .int na, .ref zs, .ref ln, .ref ir, .ref tk, .int su, .int le, .ref tb, .int fu, .int ap, .int pp, .ref tr, .int 1, .ref fz, .int nm])), (tr, .inl (cI, 16, .inl (upd trf (0 : Int32).toNatClampNeg 22)))] := hD
  clear hw_3
  refine lv_aload_n hx hb dX8_markOld_37 rfl (lv_at hl 1 rfl) ?_
  refine lv_iload_n hx hb dX8_markOld_38 rfl (lv_at hl 2 rfl) ?_
  have k_4 := (t_X8_mark21_0_1 l D cI cB cQ H.size h sl zs ln ir tk tb tr fz na su le fu ap pp nm v sf (upd trf (0 : Int32).toNatClampNeg 22) v0 hsi (by omega) (by omega) (by omega) (by omega) (by omega))
  refine wc_i (WC := [(h, .inr (7, [.ref sl, .int na, .ref zs, .ref ln, .ref ir, .ref tk, .int su, .int le, .ref tb, .int fu, .int ap, .int pp, .ref tr, .int 1, .ref fz, .int nm])), (sl, .inl (cI, 1653, .inl sf)), (tr, .inl (cI, 16, .inl (upd trf (0 : Int32).toNatClampNeg 22)))]) (WR := []) (va_runV (As := [.int v]) (rest := []) ⟨hx, hb, hml, hown, hts⟩ k_4 (cwV 1 hts gX8_markOld_X8_mark21 rfl rfl rfl (by decide +kernel) ⟨Nat.le_of_ble_eq_true rfl, Nat.le_of_ble_eq_true rfl⟩) (wp_V hP hK hD hN [1, 0, 2] (by decide) rfl (ci := 7) rfl rfl) rfl rfl hl.1 rfl (lv_room (Nat.le_of_ble_eq_true rfl)) dX8_markOld_39 ⟨Nat.le_of_ble_eq_true rfl, Nat.le_of_ble_eq_true rfl⟩) hP hD hS hA [1, 0, 2] [] rfl rfl (by decide) (by decide) (fun r_4 u_4 H locs hw_4 hP hD hS => ?_)
  clear k_4
  have hP : va_P D kl [(h, .inr (7, [.ref sl, .int na, .ref zs, .ref ln, .ref ir, .ref tk, .int su, .int le, .ref tb, .int fu, .int ap, .int pp, .ref tr, .int 3, .ref fz, .int nm])), (sl, .inl (cI, 1653, .inl sf)), (tr, .inl (cI, 16, .inl (upd (upd (upd trf (0 : Int32).toNatClampNeg 22) (1 : Int32).toNatClampNeg 21) (2 : Int32).toNatClampNeg 20)))] H := hP
  have hD : va_D A [(h, .inr (7, [.ref sl, .int na, .ref zs, .ref ln, .ref ir, .ref tk, .int su, .int le, .ref tb, .int fu, .int ap, .int pp, .ref tr, .int 3, .ref fz, .int nm])), (sl, .inl (cI, 1653, .inl sf)), (tr, .inl (cI, 16, .inl (upd (upd (upd trf (0 : Int32).toNatClampNeg 22) (1 : Int32).toNatClampNeg 21) (2 : Int32).toNatClampNeg 20)))] := hD
  clear hw_4
  refine lv_istore_n (lv' := [(3, .int r_4), (2, .int 3), (0, .ref h), (1, .int v)]) hx hb dX8_markOld_42 rfl hl (by decide) rfl (fun ls hl => ?_)
  refine lv_iload_n hx hb dX8_markOld_43 rfl (lv_at hl 1 rfl) ?_
  refine lv_iconst (v := 3) hx hb dX8_markOld_44 (by decide) ?_
  refine lv_icmp_ne (tgt := 56) hx hb dX8_markOld_45 (by decide) (fun c9 => absurd (by decide) c9) (fun _ => ?_)
  refine lv_iload_n hx hb dX8_markOld_48 rfl (lv_at hl 0 rfl) ?_
  refine lv_sipush (v := 1000) hx hb dX8_markOld_49 (by decide) ?_
  refine lv_isub hx hb dX8_markOld_52 ?_
  refine lv_topi (fun x_5 ex_5 => ?_)
  clear ex_5
  refine lv_goto (tgt := 59) hx hb dX8_markOld_53 (by decide) ?_
  exact wr_i (v := x_5) hx hb hr hlocks hS () (by trivial) (hP.sub [0, 1, 2] rfl) (hD.sub [0, 1, 2] (by decide) rfl) dX8_markOld_59
set_option maxHeartbeats 4000000 in
set_option maxRecDepth 100000 in
theorem t_X8_markOf_3_0 (l : Launch) (D : va_G) (cI cB cQ : ClassId) (sz : Nat) (h : Nat) (sl : Nat) (zs : Nat) (ln : Nat) (ir : Nat) (tk : Nat) (tb : Nat) (tr : Nat) (fz : Nat) (na : Int32) (su : Int32) (le : Int32) (fu : Int32) (ap : Int32) (pp : Int32) (nm : Int32) (v : Int32) (sf : Nat → Int32) (trf : Nat → Int32) (v0 : Int) (hsi : SI sf v0) (h_na : 0 ≤ na.toInt ∧ na.toInt ≤ 24) (h_le : 0 ≤ le.toInt ∧ le.toInt ≤ 120) (h_ap : 0 ≤ ap.toInt ∧ ap.toInt ≤ 120) (h_pp : 0 ≤ pp.toInt ∧ pp.toInt ≤ 120) (h_v : 0 ≤ v.toInt ∧ v.toInt ≤ 2) (h_kd : sf (20 + v.toNatClampNeg) = 3) : mi l yX8_markOf wsX8_markOf ({ frames := 4, cells := 0, slots := 0, locals := 87 }) D cI cB cQ [.ref h, .int v] sz [(h, .inr (7, [.ref sl, .int na, .ref zs, .ref ln, .ref ir, .ref tk, .int su, .int le, .ref tb, .int fu, .int ap, .int pp, .ref tr, .int 0, .ref fz, .int nm])), (sl, .inl (cI, 1653, .inl sf)), (tr, .inl (cI, 16, .inl trf))] (fun (r : Int32) (_u : Unit) => True) (fun _ => [(h, .inr (7, [.ref sl, .int na, .ref zs, .ref ln, .ref ir, .ref tk, .int su, .int le, .ref tb, .int fu, .int ap, .int pp, .ref tr, .int 3, .ref fz, .int nm])), (sl, .inl (cI, 1653, .inl sf)), (tr, .inl (cI, 16, .inl (upd (upd (upd trf (0 : Int32).toNatClampNeg 22) (1 : Int32).toNatClampNeg 21) (2 : Int32).toNatClampNeg 20)))]) 0 0 := by
  refine wm_i (cc := cX8_markOf) (maxL := 3) (ret := (some .int)) (by decide) rfl (Nat.le_of_ble_eq_true rfl) ?_
  intro p e s m below meth c A ls hx hb hr hml hown hts hlocks hin hP hK hD hN hA hl hS
  have hown : s.vm.findClass RX8 = some m.cls := hown
  have hl : lv_has ls 3 [(0, .ref h), (1, .int v)] := hl
  change W p l e ({ frames := 4, cells := 0, slots := 0, locals := 87 }) s m ([.ref h, .int v] : List Value).toArray below meth c s.heap [] 0 0 (MQ below (va_Qi (fun (r : Int32) (_u : Unit) => True) (fun u t => wb D A ((fun _ => [(h, .inr (7, [.ref sl, .int na, .ref zs, .ref ln, .ref ir, .ref tk, .int su, .int le, .ref tb, .int fu, .int ap, .int pp, .ref tr, .int 3, .ref fz, .int nm])), (sl, .inl (cI, 1653, .inl sf)), (tr, .inl (cI, 16, .inl (upd (upd (upd trf (0 : Int32).toNatClampNeg 22) (1 : Int32).toNatClampNeg 21) (2 : Int32).toNatClampNeg 20)))]) u) t) A) ([.ref h, .int v] : List Value).toArray s 0 0 A) (F0 m 0 ls [])
  refine lv_aload_n hx hb dX8_markOf_0 rfl (lv_at hl 0 rfl) ?_
  refine va_get (D := D) (ci := 7) (v := .ref sl) (C := RX8) (T := TX8) (N := 16) hx hb hts (fun _ h => List.mem_cons_of_mem _ (List.mem_append_right _ h)) hown hK hP 0 rfl rfl 0 (by decide) (hts (.fieldLink RX8 7 "WinterWalkModel" "slot" "[I") (List.mem_of_getElem? (i := 1) rfl)) (fun _ h9 => h9) rfl dX8_markOf_1 ?_
  refine lv_bipush (v := 20) hx hb dX8_markOf_4 (by decide) ?_
  refine lv_iload_n hx hb dX8_markOf_6 rfl (lv_at hl 1 rfl) ?_
  refine lv_iadd hx hb dX8_markOf_7 ?_
  refine lv_topi (fun x_1 ex_1 => ?_)
  have e_1 : x_1.toInt = 20 + v.toInt := by rw [ex_1]; exact zi_add (by decide) (rfl) (by omega) (by omega)
  clear ex_1
  refine va_iald hx hb hK hP 1 0 rfl rfl (zi_in (by omega) (by omega)) dX8_markOf_8 ?_
  refine lv_topi (fun x_2 ex_2 => ?_)
  obtain rfl : x_2 = 3 := ex_2.trans ((congrArg sf (show (x_1 : Int32).toNatClampNeg = 20 + v.toNatClampNeg from by have h9 := zi_cn (x := x_1) (by omega); have h8 := zi_cn (x := v) (by omega); omega)).trans h_kd)
  refine lv_iconst (v := 4) hx hb dX8_markOf_9 (by decide) ?_
  refine lv_icmp_ge (tgt := 19) hx hb dX8_markOf_10 (by decide) (fun c9 => absurd c9 (by decide)) (fun _ => ?_)
  refine lv_aload_n hx hb dX8_markOf_13 rfl (lv_at hl 0 rfl) ?_
  refine lv_iload_n hx hb dX8_markOf_14 rfl (lv_at hl 1 rfl) ?_
  have k_3 := (t_X8_markOld_3_0 l D cI cB cQ s.heap.size h sl zs ln ir tk tb tr fz na su le fu ap pp nm v sf trf v0 hsi (by omega) (by omega) (by omega) (by omega) (by omega) (h_kd))
  refine wc_i (WC := [(h, .inr (7, [.ref sl, .int na, .ref zs, .ref ln, .ref ir, .ref tk, .int su, .int le, .ref tb, .int fu, .int ap, .int pp, .ref tr, .int 0, .ref fz, .int nm])), (sl, .inl (cI, 1653, .inl sf)), (tr, .inl (cI, 16, .inl trf))]) (WR := []) (va_runV (As := [.int v]) (rest := []) ⟨hx, hb, hml, hown, hts⟩ k_3 (cwV 1 hts gX8_markOf_X8_markOld rfl rfl rfl (by decide +kernel) ⟨Nat.le_of_ble_eq_true rfl, Nat.le_of_ble_eq_true rfl⟩) (wp_V hP hK hD hN [0, 1, 2] (by decide) rfl (ci := 7) rfl rfl) rfl rfl hl.1 rfl (lv_room (Nat.le_of_ble_eq_true rfl)) dX8_markOf_15 ⟨Nat.le_of_ble_eq_true rfl, Nat.le_of_ble_eq_true rfl⟩) hP hD hS hA [0, 1, 2] [] rfl rfl (by decide) (by decide) (fun r_3 u_3 H locs hw_3 hP hD hS => ?_)
  clear k_3
  have hP : va_P D kl [(h, .inr (7, [.ref sl, .int na, .ref zs, .ref ln, .ref ir, .ref tk, .int su, .int le, .ref tb, .int fu, .int ap, .int pp, .ref tr, .int 3, .ref fz, .int nm])), (sl, .inl (cI, 1653, .inl sf)), (tr, .inl (cI, 16, .inl (upd (upd (upd trf (0 : Int32).toNatClampNeg 22) (1 : Int32).toNatClampNeg 21) (2 : Int32).toNatClampNeg 20)))] H := hP
  have hD : va_D A [(h, .inr (7, [.ref sl, .int na, .ref zs, .ref ln, .ref ir, .ref tk, .int su, .int le, .ref tb, .int fu, .int ap, .int pp, .ref tr, .int 3, .ref fz, .int nm])), (sl, .inl (cI, 1653, .inl sf)), (tr, .inl (cI, 16, .inl (upd (upd (upd trf (0 : Int32).toNatClampNeg 22) (1 : Int32).toNatClampNeg 21) (2 : Int32).toNatClampNeg 20)))] := hD
  clear hw_3
  exact wr_i (v := r_3) hx hb hr hlocks hS () (by trivial) (hP.sub [0, 1, 2] rfl) (hD.sub [0, 1, 2] (by decide) rfl) dX8_markOf_18
set_option maxHeartbeats 4000000 in
set_option maxRecDepth 100000 in
theorem t_X8_begins_13_0 (l : Launch) (D : va_G) (cI cB cQ : ClassId) (sz : Nat) (h : Nat) (sl : Nat) (zs : Nat) (ln : Nat) (ir : Nat) (tk : Nat) (tb : Nat) (tr : Nat) (fz : Nat) (na : Int32) (su : Int32) (le : Int32) (fu : Int32) (ap : Int32) (pp : Int32) (nm : Int32) (trf : Nat → Int32) (h_na : 0 ≤ na.toInt ∧ na.toInt ≤ 24) (h_le : 0 ≤ le.toInt ∧ le.toInt ≤ 120) (h_ap : 0 ≤ ap.toInt ∧ ap.toInt ≤ 120) (h_pp : 0 ≤ pp.toInt ∧ pp.toInt ≤ 120) : mv l yX8_begins wsX8_begins ({ frames := 0, cells := 0, slots := 0, locals := 0 }) D cI cB cQ [.ref h, .int 13] sz [(h, .inr (7, [.ref sl, .int na, .ref zs, .ref ln, .ref ir, .ref tk, .int su, .int le, .ref tb, .int fu, .int ap, .int pp, .ref tr, .int 0, .ref fz, .int nm])), (tr, .inl (cI, 16, .inl trf))] (fun (_u : Unit) => True) (fun _ => [(h, .inr (7, [.ref sl, .int na, .ref zs, .ref ln, .ref ir, .ref tk, .int su, .int le, .ref tb, .int fu, .int ap, .int pp, .ref tr, .int 1, .ref fz, .int nm])), (tr, .inl (cI, 16, .inl (upd trf (0 : Int32).toNatClampNeg 13)))]) 0 0 := by
  refine wm_v (cc := cX8_begins) (maxL := 2) (ret := none) (by decide) rfl (Nat.le_of_ble_eq_true rfl) ?_
  intro p e s m below meth c A ls hx hb hr hml hown hts hlocks hin hP hK hD hN hA hl hS
  have hown : s.vm.findClass RX8 = some m.cls := hown
  have hl : lv_has ls 2 [(0, .ref h), (1, .int 13)] := hl
  change W p l e ({ frames := 0, cells := 0, slots := 0, locals := 0 }) s m ([.ref h, .int 13] : List Value).toArray below meth c s.heap [] 0 0 (MQ below (va_Qv (fun (_u : Unit) => True) (fun u t => wb D A ((fun _ => [(h, .inr (7, [.ref sl, .int na, .ref zs, .ref ln, .ref ir, .ref tk, .int su, .int le, .ref tb, .int fu, .int ap, .int pp, .ref tr, .int 1, .ref fz, .int nm])), (tr, .inl (cI, 16, .inl (upd trf (0 : Int32).toNatClampNeg 13)))]) u) t) A) ([.ref h, .int 13] : List Value).toArray s 0 0 A) (F0 m 0 ls [])
  refine lv_aload_n hx hb dX8_begins_0 rfl (lv_at hl 0 rfl) ?_
  refine va_get (D := D) (ci := 7) (v := .int 0) (C := RX8) (T := TX8) (N := 16) hx hb hts (fun _ h => List.mem_cons_of_mem _ (List.mem_append_right _ h)) hown hK hP 0 rfl rfl 13 (by decide) (hts (.fieldLink RX8 208 "WinterWalkModel" "traced" "I") (List.mem_of_getElem? (i := 1) rfl)) (fun _ h9 => h9) rfl dX8_begins_1 ?_
  refine lv_bipush (v := 16) hx hb dX8_begins_4 (by decide) ?_
  refine lv_icmp_ge (tgt := 29) hx hb dX8_begins_6 (by decide) (fun c9 => absurd c9 (by decide)) (fun _ => ?_)
  refine lv_aload_n hx hb dX8_begins_9 rfl (lv_at hl 0 rfl) ?_
  refine va_get (D := D) (ci := 7) (v := .ref tr) (C := RX8) (T := TX8) (N := 16) hx hb hts (fun _ h => List.mem_cons_of_mem _ (List.mem_append_right _ h)) hown hK hP 0 rfl rfl 12 (by decide) (hts (.fieldLink RX8 29 "WinterWalkModel" "trace" "[I") (List.mem_of_getElem? (i := 2) rfl)) (fun _ h9 => h9) rfl dX8_begins_10 ?_
  refine lv_aload_n hx hb dX8_begins_13 rfl (lv_at hl 0 rfl) ?_
  refine va_get (D := D) (ci := 7) (v := .int 0) (C := RX8) (T := TX8) (N := 16) hx hb hts (fun _ h => List.mem_cons_of_mem _ (List.mem_append_right _ h)) hown hK hP 0 rfl rfl 13 (by decide) (hts (.fieldLink RX8 208 "WinterWalkModel" "traced" "I") (List.mem_of_getElem? (i := 1) rfl)) (fun _ h9 => h9) rfl dX8_begins_14 ?_
  refine lv_iload_n hx hb dX8_begins_17 rfl (lv_at hl 1 rfl) ?_
  refine va_iast hx hb hK hP hD hS 1 0 rfl rfl (zi_in (by decide) (by decide)) dX8_begins_18 (fun H locs hP hD hS => ?_)
  have hP : va_P D kl [(h, .inr (7, [.ref sl, .int na, .ref zs, .ref ln, .ref ir, .ref tk, .int su, .int le, .ref tb, .int fu, .int ap, .int pp, .ref tr, .int 0, .ref fz, .int nm])), (tr, .inl (cI, 16, .inl (upd trf (0 : Int32).toNatClampNeg 13)))] H := hP
  have hD : va_D A [(h, .inr (7, [.ref sl, .int na, .ref zs, .ref ln, .ref ir, .ref tk, .int su, .int le, .ref tb, .int fu, .int ap, .int pp, .ref tr, .int 0, .ref fz, .int nm])), (tr, .inl (cI, 16, .inl (upd trf (0 : Int32).toNatClampNeg 13)))] := hD
  refine lv_aload_n hx hb dX8_begins_19 rfl (lv_at hl 0 rfl) ?_
  refine lv_dup hx hb dX8_begins_20 rfl ?_
  refine va_get (D := D) (ci := 7) (v := .int 0) (C := RX8) (T := TX8) (N := 16) hx hb hts (fun _ h => List.mem_cons_of_mem _ (List.mem_append_right _ h)) hown hK hP 0 rfl rfl 13 (by decide) (hts (.fieldLink RX8 208 "WinterWalkModel" "traced" "I") (List.mem_of_getElem? (i := 1) rfl)) (fun _ h9 => h9) rfl dX8_begins_21 ?_
  refine lv_iconst (v := 1) hx hb dX8_begins_24 (by decide) ?_
  refine lv_iadd hx hb dX8_begins_25 ?_
  refine lv_topi (fun x_1 ex_1 => ?_)
  obtain rfl : x_1 = 1 := ex_1.trans (by decide)
  refine va_put (D := D) (ci := 7) (v := .int 1) (ty := .int) (C := RX8) (T := TX8) (N := 16) hx hb hts (fun _ h => List.mem_cons_of_mem _ (List.mem_append_right _ h)) tyX8 tyX8_ok nmX8 hown hK hP hD hS 0 rfl rfl 13 (by decide) (hts (.fieldLink RX8 208 "WinterWalkModel" "traced" "I") (List.mem_of_getElem? (i := 1) rfl)) (fun _ h9 => h9) rfl (by decide +kernel) rfl rfl (Nat.le_of_ble_eq_true rfl) dX8_begins_26 (fun H locs hP hD hS => ?_)
  have hP : va_P D kl [(h, .inr (7, [.ref sl, .int na, .ref zs, .ref ln, .ref ir, .ref tk, .int su, .int le, .ref tb, .int fu, .int ap, .int pp, .ref tr, .int 1, .ref fz, .int nm])), (tr, .inl (cI, 16, .inl (upd trf (0 : Int32).toNatClampNeg 13)))] H := hP
  have hD : va_D A [(h, .inr (7, [.ref sl, .int na, .ref zs, .ref ln, .ref ir, .ref tk, .int su, .int le, .ref tb, .int fu, .int ap, .int pp, .ref tr, .int 1, .ref fz, .int nm])), (tr, .inl (cI, 16, .inl (upd trf (0 : Int32).toNatClampNeg 13)))] := hD
  exact wr_v hx hb hr hlocks hS () (by trivial) (hP.sub [0, 1] rfl) (hD.sub [0, 1] (by decide) rfl) dX8_begins_29
set_option maxHeartbeats 4000000 in
set_option maxRecDepth 100000 in
theorem t_X8_size13_0_0 (l : Launch) (D : va_G) (cI cB cQ : ClassId) (sz : Nat) (h : Nat) (sl : Nat) (zs : Nat) (ln : Nat) (ir : Nat) (tk : Nat) (tb : Nat) (tr : Nat) (fz : Nat) (na : Int32) (su : Int32) (le : Int32) (fu : Int32) (ap : Int32) (pp : Int32) (nm : Int32) (v : Int32) (sf : Nat → Int32) (trf : Nat → Int32) (v0 : Int) (hsi : SI sf v0) (h_na : 0 ≤ na.toInt ∧ na.toInt ≤ 24) (h_le : 0 ≤ le.toInt ∧ le.toInt ≤ 120) (h_ap : 0 ≤ ap.toInt ∧ ap.toInt ≤ 120) (h_pp : 0 ≤ pp.toInt ∧ pp.toInt ≤ 120) (h_v : 0 ≤ v.toInt ∧ v.toInt ≤ 2) : mi l yX8_size13 wsX8_size13 ({ frames := 2, cells := 0, slots := 0, locals := 42 }) D cI cB cQ [.ref h, .int v] sz [(h, .inr (7, [.ref sl, .int na, .ref zs, .ref ln, .ref ir, .ref tk, .int su, .int le, .ref tb, .int fu, .int ap, .int pp, .ref tr, .int 0, .ref fz, .int nm])), (sl, .inl (cI, 1653, .inl sf)), (tr, .inl (cI, 16, .inl trf))] (fun (r : Int32) (_u : Unit) => True) (fun _ => [(h, .inr (7, [.ref sl, .int na, .ref zs, .ref ln, .ref ir, .ref tk, .int su, .int le, .ref tb, .int fu, .int ap, .int pp, .ref tr, .int 2, .ref fz, .int nm])), (sl, .inl (cI, 1653, .inl sf)), (tr, .inl (cI, 16, .inl (upd (upd trf (0 : Int32).toNatClampNeg 13) (1 : Int32).toNatClampNeg 10)))]) 0 0 := by
  refine wm_i (cc := cX8_size13) (maxL := 2) (ret := (some .int)) (by decide) rfl (Nat.le_of_ble_eq_true rfl) ?_
  intro p e s m below meth c A ls hx hb hr hml hown hts hlocks hin hP hK hD hN hA hl hS
  have hown : s.vm.findClass RX8 = some m.cls := hown
  have hl : lv_has ls 2 [(0, .ref h), (1, .int v)] := hl
  change W p l e ({ frames := 2, cells := 0, slots := 0, locals := 42 }) s m ([.ref h, .int v] : List Value).toArray below meth c s.heap [] 0 0 (MQ below (va_Qi (fun (r : Int32) (_u : Unit) => True) (fun u t => wb D A ((fun _ => [(h, .inr (7, [.ref sl, .int na, .ref zs, .ref ln, .ref ir, .ref tk, .int su, .int le, .ref tb, .int fu, .int ap, .int pp, .ref tr, .int 2, .ref fz, .int nm])), (sl, .inl (cI, 1653, .inl sf)), (tr, .inl (cI, 16, .inl (upd (upd trf (0 : Int32).toNatClampNeg 13) (1 : Int32).toNatClampNeg 10)))]) u) t) A) ([.ref h, .int v] : List Value).toArray s 0 0 A) (F0 m 0 ls [])
  refine lv_aload_n hx hb dX8_size13_0 rfl (lv_at hl 0 rfl) ?_
  refine lv_bipush (v := 13) hx hb dX8_size13_1 (by decide) ?_
  have k_1 := (t_X8_begins_13_0 l D cI cB cQ s.heap.size h sl zs ln ir tk tb tr fz na su le fu ap pp nm trf (by omega) (by omega) (by omega) (by omega))
  refine wc_v (WC := [(h, .inr (7, [.ref sl, .int na, .ref zs, .ref ln, .ref ir, .ref tk, .int su, .int le, .ref tb, .int fu, .int ap, .int pp, .ref tr, .int 0, .ref fz, .int nm])), (tr, .inl (cI, 16, .inl trf))]) (WR := [(sl, .inl (cI, 1653, .inl sf))]) (va_runV (As := [.int 13]) (rest := []) ⟨hx, hb, hml, hown, hts⟩ k_1 (cwV 1 hts gX8_size13_X8_begins rfl rfl rfl (by decide +kernel) ⟨Nat.le_of_ble_eq_true rfl, Nat.le_of_ble_eq_true rfl⟩) (wp_V hP hK hD hN [0, 2] (by decide) rfl (ci := 7) rfl rfl) rfl rfl hl.1 rfl (lv_room (Nat.le_of_ble_eq_true rfl)) dX8_size13_3 ⟨Nat.le_of_ble_eq_true rfl, Nat.le_of_ble_eq_true rfl⟩) hP hD hS hA [0, 2] [1] rfl rfl (by decide) (by decide) (fun u_1 H locs hw_1 hP hD hS => ?_)
  clear k_1
  have hP : va_P D kl [(sl, .inl (cI, 1653, .inl sf)), (h, .inr (7, [.ref sl, .int na, .ref zs, .ref ln, .ref ir, .ref tk, .int su, .int le, .ref tb, .int fu, .int ap, .int pp, .ref tr, .int 1, .ref fz, .int nm])), (tr, .inl (cI, 16, .inl (upd trf (0 : Int32).toNatClampNeg 13)))] H := hP
  have hD : va_D A [(sl, .inl (cI, 1653, .inl sf)), (h, .inr (7, [.ref sl, .int na, .ref zs, .ref ln, .ref ir, .ref tk, .int su, .int le, .ref tb, .int fu, .int ap, .int pp, .ref tr, .int 1, .ref fz, .int nm])), (tr, .inl (cI, 16, .inl (upd trf (0 : Int32).toNatClampNeg 13)))] := hD
  clear hw_1
  refine lv_aload_n hx hb dX8_size13_6 rfl (lv_at hl 0 rfl) ?_
  refine lv_iload_n hx hb dX8_size13_7 rfl (lv_at hl 1 rfl) ?_
  have k_2 := (t_X8_size10_0_1 l D cI cB cQ H.size h sl zs ln ir tk tb tr fz na su le fu ap pp nm v sf (upd trf (0 : Int32).toNatClampNeg 13) v0 hsi (by omega) (by omega) (by omega) (by omega) (by omega))
  refine wc_i (WC := [(h, .inr (7, [.ref sl, .int na, .ref zs, .ref ln, .ref ir, .ref tk, .int su, .int le, .ref tb, .int fu, .int ap, .int pp, .ref tr, .int 1, .ref fz, .int nm])), (sl, .inl (cI, 1653, .inl sf)), (tr, .inl (cI, 16, .inl (upd trf (0 : Int32).toNatClampNeg 13)))]) (WR := []) (va_runV (As := [.int v]) (rest := []) ⟨hx, hb, hml, hown, hts⟩ k_2 (cwV 1 hts gX8_size13_X8_size10 rfl rfl rfl (by decide +kernel) ⟨Nat.le_of_ble_eq_true rfl, Nat.le_of_ble_eq_true rfl⟩) (wp_V hP hK hD hN [1, 0, 2] (by decide) rfl (ci := 7) rfl rfl) rfl rfl hl.1 rfl (lv_room (Nat.le_of_ble_eq_true rfl)) dX8_size13_8 ⟨Nat.le_of_ble_eq_true rfl, Nat.le_of_ble_eq_true rfl⟩) hP hD hS hA [1, 0, 2] [] rfl rfl (by decide) (by decide) (fun r_2 u_2 H locs hw_2 hP hD hS => ?_)
  clear k_2
  have hP : va_P D kl [(h, .inr (7, [.ref sl, .int na, .ref zs, .ref ln, .ref ir, .ref tk, .int su, .int le, .ref tb, .int fu, .int ap, .int pp, .ref tr, .int 2, .ref fz, .int nm])), (sl, .inl (cI, 1653, .inl sf)), (tr, .inl (cI, 16, .inl (upd (upd trf (0 : Int32).toNatClampNeg 13) (1 : Int32).toNatClampNeg 10)))] H := hP
  have hD : va_D A [(h, .inr (7, [.ref sl, .int na, .ref zs, .ref ln, .ref ir, .ref tk, .int su, .int le, .ref tb, .int fu, .int ap, .int pp, .ref tr, .int 2, .ref fz, .int nm])), (sl, .inl (cI, 1653, .inl sf)), (tr, .inl (cI, 16, .inl (upd (upd trf (0 : Int32).toNatClampNeg 13) (1 : Int32).toNatClampNeg 10)))] := hD
  clear hw_2
  refine lv_bipush (v := 100) hx hb dX8_size13_11 (by decide) ?_
  refine lv_isub hx hb dX8_size13_13 ?_
  refine lv_topi (fun x_3 ex_3 => ?_)
  clear ex_3
  exact wr_i (v := x_3) hx hb hr hlocks hS () (by trivial) (hP.sub [0, 1, 2] rfl) (hD.sub [0, 1, 2] (by decide) rfl) dX8_size13_14
set_option maxHeartbeats 4000000 in
set_option maxRecDepth 100000 in
theorem t_X8_sizeOf_4_0 (l : Launch) (D : va_G) (cI cB cQ : ClassId) (sz : Nat) (h : Nat) (sl : Nat) (zs : Nat) (ln : Nat) (ir : Nat) (tk : Nat) (tb : Nat) (tr : Nat) (fz : Nat) (na : Int32) (su : Int32) (le : Int32) (fu : Int32) (ap : Int32) (pp : Int32) (nm : Int32) (v : Int32) (sf : Nat → Int32) (trf : Nat → Int32) (v0 : Int) (hsi : SI sf v0) (h_na : 0 ≤ na.toInt ∧ na.toInt ≤ 24) (h_le : 0 ≤ le.toInt ∧ le.toInt ≤ 120) (h_ap : 0 ≤ ap.toInt ∧ ap.toInt ≤ 120) (h_pp : 0 ≤ pp.toInt ∧ pp.toInt ≤ 120) (h_v : 0 ≤ v.toInt ∧ v.toInt ≤ 2) (h_kd : sf (20 + v.toNatClampNeg) = 4) : mi l yX8_sizeOf wsX8_sizeOf ({ frames := 3, cells := 0, slots := 0, locals := 63 }) D cI cB cQ [.ref h, .int v] sz [(h, .inr (7, [.ref sl, .int na, .ref zs, .ref ln, .ref ir, .ref tk, .int su, .int le, .ref tb, .int fu, .int ap, .int pp, .ref tr, .int 0, .ref fz, .int nm])), (sl, .inl (cI, 1653, .inl sf)), (tr, .inl (cI, 16, .inl trf))] (fun (r : Int32) (_u : Unit) => True) (fun _ => [(h, .inr (7, [.ref sl, .int na, .ref zs, .ref ln, .ref ir, .ref tk, .int su, .int le, .ref tb, .int fu, .int ap, .int pp, .ref tr, .int 2, .ref fz, .int nm])), (sl, .inl (cI, 1653, .inl sf)), (tr, .inl (cI, 16, .inl (upd (upd trf (0 : Int32).toNatClampNeg 13) (1 : Int32).toNatClampNeg 10)))]) 0 0 := by
  refine wm_i (cc := cX8_sizeOf) (maxL := 3) (ret := (some .int)) (by decide) rfl (Nat.le_of_ble_eq_true rfl) ?_
  intro p e s m below meth c A ls hx hb hr hml hown hts hlocks hin hP hK hD hN hA hl hS
  have hown : s.vm.findClass RX8 = some m.cls := hown
  have hl : lv_has ls 3 [(0, .ref h), (1, .int v)] := hl
  change W p l e ({ frames := 3, cells := 0, slots := 0, locals := 63 }) s m ([.ref h, .int v] : List Value).toArray below meth c s.heap [] 0 0 (MQ below (va_Qi (fun (r : Int32) (_u : Unit) => True) (fun u t => wb D A ((fun _ => [(h, .inr (7, [.ref sl, .int na, .ref zs, .ref ln, .ref ir, .ref tk, .int su, .int le, .ref tb, .int fu, .int ap, .int pp, .ref tr, .int 2, .ref fz, .int nm])), (sl, .inl (cI, 1653, .inl sf)), (tr, .inl (cI, 16, .inl (upd (upd trf (0 : Int32).toNatClampNeg 13) (1 : Int32).toNatClampNeg 10)))]) u) t) A) ([.ref h, .int v] : List Value).toArray s 0 0 A) (F0 m 0 ls [])
  refine lv_aload_n hx hb dX8_sizeOf_0 rfl (lv_at hl 0 rfl) ?_
  refine va_get (D := D) (ci := 7) (v := .ref sl) (C := RX8) (T := TX8) (N := 16) hx hb hts (fun _ h => List.mem_cons_of_mem _ (List.mem_append_right _ h)) hown hK hP 0 rfl rfl 0 (by decide) (hts (.fieldLink RX8 7 "WinterWalkModel" "slot" "[I") (List.mem_of_getElem? (i := 1) rfl)) (fun _ h9 => h9) rfl dX8_sizeOf_1 ?_
  refine lv_bipush (v := 20) hx hb dX8_sizeOf_4 (by decide) ?_
  refine lv_iload_n hx hb dX8_sizeOf_6 rfl (lv_at hl 1 rfl) ?_
  refine lv_iadd hx hb dX8_sizeOf_7 ?_
  refine lv_topi (fun x_1 ex_1 => ?_)
  have e_1 : x_1.toInt = 20 + v.toInt := by rw [ex_1]; exact zi_add (by decide) (rfl) (by omega) (by omega)
  clear ex_1
  refine va_iald hx hb hK hP 1 0 rfl rfl (zi_in (by omega) (by omega)) dX8_sizeOf_8 ?_
  refine lv_topi (fun x_2 ex_2 => ?_)
  obtain rfl : x_2 = 4 := ex_2.trans ((congrArg sf (show (x_1 : Int32).toNatClampNeg = 20 + v.toNatClampNeg from by have h9 := zi_cn (x := x_1) (by omega); have h8 := zi_cn (x := v) (by omega); omega)).trans h_kd)
  refine lv_istore_n (lv' := [(2, .int 4), (0, .ref h), (1, .int v)]) hx hb dX8_sizeOf_9 rfl hl (by decide) rfl (fun ls hl => ?_)
  refine lv_iload_n hx hb dX8_sizeOf_10 rfl (lv_at hl 0 rfl) ?_
  refine lv_iconst (v := 1) hx hb dX8_sizeOf_11 (by decide) ?_
  refine lv_icmp_eq (tgt := 20) hx hb dX8_sizeOf_12 (by decide) (fun c9 => absurd c9 (by decide)) (fun _ => ?_)
  refine lv_iload_n hx hb dX8_sizeOf_15 rfl (lv_at hl 0 rfl) ?_
  refine lv_iconst (v := 3) hx hb dX8_sizeOf_16 (by decide) ?_
  refine lv_icmp_ne (tgt := 26) hx hb dX8_sizeOf_17 (by decide) (fun _ => ?_) (fun c9 => absurd c9 (by decide))
  refine lv_iload_n hx hb dX8_sizeOf_26 rfl (lv_at hl 0 rfl) ?_
  refine lv_iconst (v := 4) hx hb dX8_sizeOf_27 (by decide) ?_
  refine lv_icmp_ne (tgt := 37) hx hb dX8_sizeOf_28 (by decide) (fun c9 => absurd (by decide) c9) (fun _ => ?_)
  refine lv_aload_n hx hb dX8_sizeOf_31 rfl (lv_at hl 1 rfl) ?_
  refine lv_iload_n hx hb dX8_sizeOf_32 rfl (lv_at hl 2 rfl) ?_
  have k_3 := (t_X8_size13_0_0 l D cI cB cQ s.heap.size h sl zs ln ir tk tb tr fz na su le fu ap pp nm v sf trf v0 hsi (by omega) (by omega) (by omega) (by omega) (by omega))
  refine wc_i (WC := [(h, .inr (7, [.ref sl, .int na, .ref zs, .ref ln, .ref ir, .ref tk, .int su, .int le, .ref tb, .int fu, .int ap, .int pp, .ref tr, .int 0, .ref fz, .int nm])), (sl, .inl (cI, 1653, .inl sf)), (tr, .inl (cI, 16, .inl trf))]) (WR := []) (va_runV (As := [.int v]) (rest := []) ⟨hx, hb, hml, hown, hts⟩ k_3 (cwV 1 hts gX8_sizeOf_X8_size13 rfl rfl rfl (by decide +kernel) ⟨Nat.le_of_ble_eq_true rfl, Nat.le_of_ble_eq_true rfl⟩) (wp_V hP hK hD hN [0, 1, 2] (by decide) rfl (ci := 7) rfl rfl) rfl rfl hl.1 rfl (lv_room (Nat.le_of_ble_eq_true rfl)) dX8_sizeOf_33 ⟨Nat.le_of_ble_eq_true rfl, Nat.le_of_ble_eq_true rfl⟩) hP hD hS hA [0, 1, 2] [] rfl rfl (by decide) (by decide) (fun r_3 u_3 H locs hw_3 hP hD hS => ?_)
  clear k_3
  have hP : va_P D kl [(h, .inr (7, [.ref sl, .int na, .ref zs, .ref ln, .ref ir, .ref tk, .int su, .int le, .ref tb, .int fu, .int ap, .int pp, .ref tr, .int 2, .ref fz, .int nm])), (sl, .inl (cI, 1653, .inl sf)), (tr, .inl (cI, 16, .inl (upd (upd trf (0 : Int32).toNatClampNeg 13) (1 : Int32).toNatClampNeg 10)))] H := hP
  have hD : va_D A [(h, .inr (7, [.ref sl, .int na, .ref zs, .ref ln, .ref ir, .ref tk, .int su, .int le, .ref tb, .int fu, .int ap, .int pp, .ref tr, .int 2, .ref fz, .int nm])), (sl, .inl (cI, 1653, .inl sf)), (tr, .inl (cI, 16, .inl (upd (upd trf (0 : Int32).toNatClampNeg 13) (1 : Int32).toNatClampNeg 10)))] := hD
  clear hw_3
  exact wr_i (v := r_3) hx hb hr hlocks hS () (by trivial) (hP.sub [0, 1, 2] rfl) (hD.sub [0, 1, 2] (by decide) rfl) dX8_sizeOf_36
set_option maxHeartbeats 4000000 in
set_option maxRecDepth 100000 in
theorem t_X8_begins_23_0 (l : Launch) (D : va_G) (cI cB cQ : ClassId) (sz : Nat) (h : Nat) (sl : Nat) (zs : Nat) (ln : Nat) (ir : Nat) (tk : Nat) (tb : Nat) (tr : Nat) (fz : Nat) (na : Int32) (su : Int32) (le : Int32) (fu : Int32) (ap : Int32) (pp : Int32) (nm : Int32) (trf : Nat → Int32) (h_na : 0 ≤ na.toInt ∧ na.toInt ≤ 24) (h_le : 0 ≤ le.toInt ∧ le.toInt ≤ 120) (h_ap : 0 ≤ ap.toInt ∧ ap.toInt ≤ 120) (h_pp : 0 ≤ pp.toInt ∧ pp.toInt ≤ 120) : mv l yX8_begins wsX8_begins ({ frames := 0, cells := 0, slots := 0, locals := 0 }) D cI cB cQ [.ref h, .int 23] sz [(h, .inr (7, [.ref sl, .int na, .ref zs, .ref ln, .ref ir, .ref tk, .int su, .int le, .ref tb, .int fu, .int ap, .int pp, .ref tr, .int 0, .ref fz, .int nm])), (tr, .inl (cI, 16, .inl trf))] (fun (_u : Unit) => True) (fun _ => [(h, .inr (7, [.ref sl, .int na, .ref zs, .ref ln, .ref ir, .ref tk, .int su, .int le, .ref tb, .int fu, .int ap, .int pp, .ref tr, .int 1, .ref fz, .int nm])), (tr, .inl (cI, 16, .inl (upd trf (0 : Int32).toNatClampNeg 23)))]) 0 0 := by
  refine wm_v (cc := cX8_begins) (maxL := 2) (ret := none) (by decide) rfl (Nat.le_of_ble_eq_true rfl) ?_
  intro p e s m below meth c A ls hx hb hr hml hown hts hlocks hin hP hK hD hN hA hl hS
  have hown : s.vm.findClass RX8 = some m.cls := hown
  have hl : lv_has ls 2 [(0, .ref h), (1, .int 23)] := hl
  change W p l e ({ frames := 0, cells := 0, slots := 0, locals := 0 }) s m ([.ref h, .int 23] : List Value).toArray below meth c s.heap [] 0 0 (MQ below (va_Qv (fun (_u : Unit) => True) (fun u t => wb D A ((fun _ => [(h, .inr (7, [.ref sl, .int na, .ref zs, .ref ln, .ref ir, .ref tk, .int su, .int le, .ref tb, .int fu, .int ap, .int pp, .ref tr, .int 1, .ref fz, .int nm])), (tr, .inl (cI, 16, .inl (upd trf (0 : Int32).toNatClampNeg 23)))]) u) t) A) ([.ref h, .int 23] : List Value).toArray s 0 0 A) (F0 m 0 ls [])
  refine lv_aload_n hx hb dX8_begins_0 rfl (lv_at hl 0 rfl) ?_
  refine va_get (D := D) (ci := 7) (v := .int 0) (C := RX8) (T := TX8) (N := 16) hx hb hts (fun _ h => List.mem_cons_of_mem _ (List.mem_append_right _ h)) hown hK hP 0 rfl rfl 13 (by decide) (hts (.fieldLink RX8 208 "WinterWalkModel" "traced" "I") (List.mem_of_getElem? (i := 1) rfl)) (fun _ h9 => h9) rfl dX8_begins_1 ?_
  refine lv_bipush (v := 16) hx hb dX8_begins_4 (by decide) ?_
  refine lv_icmp_ge (tgt := 29) hx hb dX8_begins_6 (by decide) (fun c9 => absurd c9 (by decide)) (fun _ => ?_)
  refine lv_aload_n hx hb dX8_begins_9 rfl (lv_at hl 0 rfl) ?_
  refine va_get (D := D) (ci := 7) (v := .ref tr) (C := RX8) (T := TX8) (N := 16) hx hb hts (fun _ h => List.mem_cons_of_mem _ (List.mem_append_right _ h)) hown hK hP 0 rfl rfl 12 (by decide) (hts (.fieldLink RX8 29 "WinterWalkModel" "trace" "[I") (List.mem_of_getElem? (i := 2) rfl)) (fun _ h9 => h9) rfl dX8_begins_10 ?_
  refine lv_aload_n hx hb dX8_begins_13 rfl (lv_at hl 0 rfl) ?_
  refine va_get (D := D) (ci := 7) (v := .int 0) (C := RX8) (T := TX8) (N := 16) hx hb hts (fun _ h => List.mem_cons_of_mem _ (List.mem_append_right _ h)) hown hK hP 0 rfl rfl 13 (by decide) (hts (.fieldLink RX8 208 "WinterWalkModel" "traced" "I") (List.mem_of_getElem? (i := 1) rfl)) (fun _ h9 => h9) rfl dX8_begins_14 ?_
  refine lv_iload_n hx hb dX8_begins_17 rfl (lv_at hl 1 rfl) ?_
  refine va_iast hx hb hK hP hD hS 1 0 rfl rfl (zi_in (by decide) (by decide)) dX8_begins_18 (fun H locs hP hD hS => ?_)
  have hP : va_P D kl [(h, .inr (7, [.ref sl, .int na, .ref zs, .ref ln, .ref ir, .ref tk, .int su, .int le, .ref tb, .int fu, .int ap, .int pp, .ref tr, .int 0, .ref fz, .int nm])), (tr, .inl (cI, 16, .inl (upd trf (0 : Int32).toNatClampNeg 23)))] H := hP
  have hD : va_D A [(h, .inr (7, [.ref sl, .int na, .ref zs, .ref ln, .ref ir, .ref tk, .int su, .int le, .ref tb, .int fu, .int ap, .int pp, .ref tr, .int 0, .ref fz, .int nm])), (tr, .inl (cI, 16, .inl (upd trf (0 : Int32).toNatClampNeg 23)))] := hD
  refine lv_aload_n hx hb dX8_begins_19 rfl (lv_at hl 0 rfl) ?_
  refine lv_dup hx hb dX8_begins_20 rfl ?_
  refine va_get (D := D) (ci := 7) (v := .int 0) (C := RX8) (T := TX8) (N := 16) hx hb hts (fun _ h => List.mem_cons_of_mem _ (List.mem_append_right _ h)) hown hK hP 0 rfl rfl 13 (by decide) (hts (.fieldLink RX8 208 "WinterWalkModel" "traced" "I") (List.mem_of_getElem? (i := 1) rfl)) (fun _ h9 => h9) rfl dX8_begins_21 ?_
  refine lv_iconst (v := 1) hx hb dX8_begins_24 (by decide) ?_
  refine lv_iadd hx hb dX8_begins_25 ?_
  refine lv_topi (fun x_1 ex_1 => ?_)
  obtain rfl : x_1 = 1 := ex_1.trans (by decide)
  refine va_put (D := D) (ci := 7) (v := .int 1) (ty := .int) (C := RX8) (T := TX8) (N := 16) hx hb hts (fun _ h => List.mem_cons_of_mem _ (List.mem_append_right _ h)) tyX8 tyX8_ok nmX8 hown hK hP hD hS 0 rfl rfl 13 (by decide) (hts (.fieldLink RX8 208 "WinterWalkModel" "traced" "I") (List.mem_of_getElem? (i := 1) rfl)) (fun _ h9 => h9) rfl (by decide +kernel) rfl rfl (Nat.le_of_ble_eq_true rfl) dX8_begins_26 (fun H locs hP hD hS => ?_)
  have hP : va_P D kl [(h, .inr (7, [.ref sl, .int na, .ref zs, .ref ln, .ref ir, .ref tk, .int su, .int le, .ref tb, .int fu, .int ap, .int pp, .ref tr, .int 1, .ref fz, .int nm])), (tr, .inl (cI, 16, .inl (upd trf (0 : Int32).toNatClampNeg 23)))] H := hP
  have hD : va_D A [(h, .inr (7, [.ref sl, .int na, .ref zs, .ref ln, .ref ir, .ref tk, .int su, .int le, .ref tb, .int fu, .int ap, .int pp, .ref tr, .int 1, .ref fz, .int nm])), (tr, .inl (cI, 16, .inl (upd trf (0 : Int32).toNatClampNeg 23)))] := hD
  exact wr_v hx hb hr hlocks hS () (by trivial) (hP.sub [0, 1] rfl) (hD.sub [0, 1] (by decide) rfl) dX8_begins_29
set_option maxHeartbeats 4000000 in
set_option maxRecDepth 100000 in
theorem t_X8_begins_13_2 (l : Launch) (D : va_G) (cI cB cQ : ClassId) (sz : Nat) (h : Nat) (sl : Nat) (zs : Nat) (ln : Nat) (ir : Nat) (tk : Nat) (tb : Nat) (tr : Nat) (fz : Nat) (na : Int32) (su : Int32) (le : Int32) (fu : Int32) (ap : Int32) (pp : Int32) (nm : Int32) (trf : Nat → Int32) (h_na : 0 ≤ na.toInt ∧ na.toInt ≤ 24) (h_le : 0 ≤ le.toInt ∧ le.toInt ≤ 120) (h_ap : 0 ≤ ap.toInt ∧ ap.toInt ≤ 120) (h_pp : 0 ≤ pp.toInt ∧ pp.toInt ≤ 120) : mv l yX8_begins wsX8_begins ({ frames := 0, cells := 0, slots := 0, locals := 0 }) D cI cB cQ [.ref h, .int 13] sz [(h, .inr (7, [.ref sl, .int na, .ref zs, .ref ln, .ref ir, .ref tk, .int su, .int le, .ref tb, .int fu, .int ap, .int pp, .ref tr, .int 2, .ref fz, .int nm])), (tr, .inl (cI, 16, .inl trf))] (fun (_u : Unit) => True) (fun _ => [(h, .inr (7, [.ref sl, .int na, .ref zs, .ref ln, .ref ir, .ref tk, .int su, .int le, .ref tb, .int fu, .int ap, .int pp, .ref tr, .int 3, .ref fz, .int nm])), (tr, .inl (cI, 16, .inl (upd trf (2 : Int32).toNatClampNeg 13)))]) 0 0 := by
  refine wm_v (cc := cX8_begins) (maxL := 2) (ret := none) (by decide) rfl (Nat.le_of_ble_eq_true rfl) ?_
  intro p e s m below meth c A ls hx hb hr hml hown hts hlocks hin hP hK hD hN hA hl hS
  have hown : s.vm.findClass RX8 = some m.cls := hown
  have hl : lv_has ls 2 [(0, .ref h), (1, .int 13)] := hl
  change W p l e ({ frames := 0, cells := 0, slots := 0, locals := 0 }) s m ([.ref h, .int 13] : List Value).toArray below meth c s.heap [] 0 0 (MQ below (va_Qv (fun (_u : Unit) => True) (fun u t => wb D A ((fun _ => [(h, .inr (7, [.ref sl, .int na, .ref zs, .ref ln, .ref ir, .ref tk, .int su, .int le, .ref tb, .int fu, .int ap, .int pp, .ref tr, .int 3, .ref fz, .int nm])), (tr, .inl (cI, 16, .inl (upd trf (2 : Int32).toNatClampNeg 13)))]) u) t) A) ([.ref h, .int 13] : List Value).toArray s 0 0 A) (F0 m 0 ls [])
  refine lv_aload_n hx hb dX8_begins_0 rfl (lv_at hl 0 rfl) ?_
  refine va_get (D := D) (ci := 7) (v := .int 2) (C := RX8) (T := TX8) (N := 16) hx hb hts (fun _ h => List.mem_cons_of_mem _ (List.mem_append_right _ h)) hown hK hP 0 rfl rfl 13 (by decide) (hts (.fieldLink RX8 208 "WinterWalkModel" "traced" "I") (List.mem_of_getElem? (i := 1) rfl)) (fun _ h9 => h9) rfl dX8_begins_1 ?_
  refine lv_bipush (v := 16) hx hb dX8_begins_4 (by decide) ?_
  refine lv_icmp_ge (tgt := 29) hx hb dX8_begins_6 (by decide) (fun c9 => absurd c9 (by decide)) (fun _ => ?_)
  refine lv_aload_n hx hb dX8_begins_9 rfl (lv_at hl 0 rfl) ?_
  refine va_get (D := D) (ci := 7) (v := .ref tr) (C := RX8) (T := TX8) (N := 16) hx hb hts (fun _ h => List.mem_cons_of_mem _ (List.mem_append_right _ h)) hown hK hP 0 rfl rfl 12 (by decide) (hts (.fieldLink RX8 29 "WinterWalkModel" "trace" "[I") (List.mem_of_getElem? (i := 2) rfl)) (fun _ h9 => h9) rfl dX8_begins_10 ?_
  refine lv_aload_n hx hb dX8_begins_13 rfl (lv_at hl 0 rfl) ?_
  refine va_get (D := D) (ci := 7) (v := .int 2) (C := RX8) (T := TX8) (N := 16) hx hb hts (fun _ h => List.mem_cons_of_mem _ (List.mem_append_right _ h)) hown hK hP 0 rfl rfl 13 (by decide) (hts (.fieldLink RX8 208 "WinterWalkModel" "traced" "I") (List.mem_of_getElem? (i := 1) rfl)) (fun _ h9 => h9) rfl dX8_begins_14 ?_
  refine lv_iload_n hx hb dX8_begins_17 rfl (lv_at hl 1 rfl) ?_
  refine va_iast hx hb hK hP hD hS 1 0 rfl rfl (zi_in (by decide) (by decide)) dX8_begins_18 (fun H locs hP hD hS => ?_)
  have hP : va_P D kl [(h, .inr (7, [.ref sl, .int na, .ref zs, .ref ln, .ref ir, .ref tk, .int su, .int le, .ref tb, .int fu, .int ap, .int pp, .ref tr, .int 2, .ref fz, .int nm])), (tr, .inl (cI, 16, .inl (upd trf (2 : Int32).toNatClampNeg 13)))] H := hP
  have hD : va_D A [(h, .inr (7, [.ref sl, .int na, .ref zs, .ref ln, .ref ir, .ref tk, .int su, .int le, .ref tb, .int fu, .int ap, .int pp, .ref tr, .int 2, .ref fz, .int nm])), (tr, .inl (cI, 16, .inl (upd trf (2 : Int32).toNatClampNeg 13)))] := hD
  refine lv_aload_n hx hb dX8_begins_19 rfl (lv_at hl 0 rfl) ?_
  refine lv_dup hx hb dX8_begins_20 rfl ?_
  refine va_get (D := D) (ci := 7) (v := .int 2) (C := RX8) (T := TX8) (N := 16) hx hb hts (fun _ h => List.mem_cons_of_mem _ (List.mem_append_right _ h)) hown hK hP 0 rfl rfl 13 (by decide) (hts (.fieldLink RX8 208 "WinterWalkModel" "traced" "I") (List.mem_of_getElem? (i := 1) rfl)) (fun _ h9 => h9) rfl dX8_begins_21 ?_
  refine lv_iconst (v := 1) hx hb dX8_begins_24 (by decide) ?_
  refine lv_iadd hx hb dX8_begins_25 ?_
  refine lv_topi (fun x_1 ex_1 => ?_)
  obtain rfl : x_1 = 3 := ex_1.trans (by decide)
  refine va_put (D := D) (ci := 7) (v := .int 3) (ty := .int) (C := RX8) (T := TX8) (N := 16) hx hb hts (fun _ h => List.mem_cons_of_mem _ (List.mem_append_right _ h)) tyX8 tyX8_ok nmX8 hown hK hP hD hS 0 rfl rfl 13 (by decide) (hts (.fieldLink RX8 208 "WinterWalkModel" "traced" "I") (List.mem_of_getElem? (i := 1) rfl)) (fun _ h9 => h9) rfl (by decide +kernel) rfl rfl (Nat.le_of_ble_eq_true rfl) dX8_begins_26 (fun H locs hP hD hS => ?_)
  have hP : va_P D kl [(h, .inr (7, [.ref sl, .int na, .ref zs, .ref ln, .ref ir, .ref tk, .int su, .int le, .ref tb, .int fu, .int ap, .int pp, .ref tr, .int 3, .ref fz, .int nm])), (tr, .inl (cI, 16, .inl (upd trf (2 : Int32).toNatClampNeg 13)))] H := hP
  have hD : va_D A [(h, .inr (7, [.ref sl, .int na, .ref zs, .ref ln, .ref ir, .ref tk, .int su, .int le, .ref tb, .int fu, .int ap, .int pp, .ref tr, .int 3, .ref fz, .int nm])), (tr, .inl (cI, 16, .inl (upd trf (2 : Int32).toNatClampNeg 13)))] := hD
  exact wr_v hx hb hr hlocks hS () (by trivial) (hP.sub [0, 1] rfl) (hD.sub [0, 1] (by decide) rfl) dX8_begins_29
set_option maxHeartbeats 4000000 in
set_option maxRecDepth 100000 in
theorem t_X8_begins_10_3 (l : Launch) (D : va_G) (cI cB cQ : ClassId) (sz : Nat) (h : Nat) (sl : Nat) (zs : Nat) (ln : Nat) (ir : Nat) (tk : Nat) (tb : Nat) (tr : Nat) (fz : Nat) (na : Int32) (su : Int32) (le : Int32) (fu : Int32) (ap : Int32) (pp : Int32) (nm : Int32) (trf : Nat → Int32) (h_na : 0 ≤ na.toInt ∧ na.toInt ≤ 24) (h_le : 0 ≤ le.toInt ∧ le.toInt ≤ 120) (h_ap : 0 ≤ ap.toInt ∧ ap.toInt ≤ 120) (h_pp : 0 ≤ pp.toInt ∧ pp.toInt ≤ 120) : mv l yX8_begins wsX8_begins ({ frames := 0, cells := 0, slots := 0, locals := 0 }) D cI cB cQ [.ref h, .int 10] sz [(h, .inr (7, [.ref sl, .int na, .ref zs, .ref ln, .ref ir, .ref tk, .int su, .int le, .ref tb, .int fu, .int ap, .int pp, .ref tr, .int 3, .ref fz, .int nm])), (tr, .inl (cI, 16, .inl trf))] (fun (_u : Unit) => True) (fun _ => [(h, .inr (7, [.ref sl, .int na, .ref zs, .ref ln, .ref ir, .ref tk, .int su, .int le, .ref tb, .int fu, .int ap, .int pp, .ref tr, .int 4, .ref fz, .int nm])), (tr, .inl (cI, 16, .inl (upd trf (3 : Int32).toNatClampNeg 10)))]) 0 0 := by
  refine wm_v (cc := cX8_begins) (maxL := 2) (ret := none) (by decide) rfl (Nat.le_of_ble_eq_true rfl) ?_
  intro p e s m below meth c A ls hx hb hr hml hown hts hlocks hin hP hK hD hN hA hl hS
  have hown : s.vm.findClass RX8 = some m.cls := hown
  have hl : lv_has ls 2 [(0, .ref h), (1, .int 10)] := hl
  change W p l e ({ frames := 0, cells := 0, slots := 0, locals := 0 }) s m ([.ref h, .int 10] : List Value).toArray below meth c s.heap [] 0 0 (MQ below (va_Qv (fun (_u : Unit) => True) (fun u t => wb D A ((fun _ => [(h, .inr (7, [.ref sl, .int na, .ref zs, .ref ln, .ref ir, .ref tk, .int su, .int le, .ref tb, .int fu, .int ap, .int pp, .ref tr, .int 4, .ref fz, .int nm])), (tr, .inl (cI, 16, .inl (upd trf (3 : Int32).toNatClampNeg 10)))]) u) t) A) ([.ref h, .int 10] : List Value).toArray s 0 0 A) (F0 m 0 ls [])
  refine lv_aload_n hx hb dX8_begins_0 rfl (lv_at hl 0 rfl) ?_
  refine va_get (D := D) (ci := 7) (v := .int 3) (C := RX8) (T := TX8) (N := 16) hx hb hts (fun _ h => List.mem_cons_of_mem _ (List.mem_append_right _ h)) hown hK hP 0 rfl rfl 13 (by decide) (hts (.fieldLink RX8 208 "WinterWalkModel" "traced" "I") (List.mem_of_getElem? (i := 1) rfl)) (fun _ h9 => h9) rfl dX8_begins_1 ?_
  refine lv_bipush (v := 16) hx hb dX8_begins_4 (by decide) ?_
  refine lv_icmp_ge (tgt := 29) hx hb dX8_begins_6 (by decide) (fun c9 => absurd c9 (by decide)) (fun _ => ?_)
  refine lv_aload_n hx hb dX8_begins_9 rfl (lv_at hl 0 rfl) ?_
  refine va_get (D := D) (ci := 7) (v := .ref tr) (C := RX8) (T := TX8) (N := 16) hx hb hts (fun _ h => List.mem_cons_of_mem _ (List.mem_append_right _ h)) hown hK hP 0 rfl rfl 12 (by decide) (hts (.fieldLink RX8 29 "WinterWalkModel" "trace" "[I") (List.mem_of_getElem? (i := 2) rfl)) (fun _ h9 => h9) rfl dX8_begins_10 ?_
  refine lv_aload_n hx hb dX8_begins_13 rfl (lv_at hl 0 rfl) ?_
  refine va_get (D := D) (ci := 7) (v := .int 3) (C := RX8) (T := TX8) (N := 16) hx hb hts (fun _ h => List.mem_cons_of_mem _ (List.mem_append_right _ h)) hown hK hP 0 rfl rfl 13 (by decide) (hts (.fieldLink RX8 208 "WinterWalkModel" "traced" "I") (List.mem_of_getElem? (i := 1) rfl)) (fun _ h9 => h9) rfl dX8_begins_14 ?_
  refine lv_iload_n hx hb dX8_begins_17 rfl (lv_at hl 1 rfl) ?_
  refine va_iast hx hb hK hP hD hS 1 0 rfl rfl (zi_in (by decide) (by decide)) dX8_begins_18 (fun H locs hP hD hS => ?_)
  have hP : va_P D kl [(h, .inr (7, [.ref sl, .int na, .ref zs, .ref ln, .ref ir, .ref tk, .int su, .int le, .ref tb, .int fu, .int ap, .int pp, .ref tr, .int 3, .ref fz, .int nm])), (tr, .inl (cI, 16, .inl (upd trf (3 : Int32).toNatClampNeg 10)))] H := hP
  have hD : va_D A [(h, .inr (7, [.ref sl, .int na, .ref zs, .ref ln, .ref ir, .ref tk, .int su, .int le, .ref tb, .int fu, .int ap, .int pp, .ref tr, .int 3, .ref fz, .int nm])), (tr, .inl (cI, 16, .inl (upd trf (3 : Int32).toNatClampNeg 10)))] := hD
  refine lv_aload_n hx hb dX8_begins_19 rfl (lv_at hl 0 rfl) ?_
  refine lv_dup hx hb dX8_begins_20 rfl ?_
  refine va_get (D := D) (ci := 7) (v := .int 3) (C := RX8) (T := TX8) (N := 16) hx hb hts (fun _ h => List.mem_cons_of_mem _ (List.mem_append_right _ h)) hown hK hP 0 rfl rfl 13 (by decide) (hts (.fieldLink RX8 208 "WinterWalkModel" "traced" "I") (List.mem_of_getElem? (i := 1) rfl)) (fun _ h9 => h9) rfl dX8_begins_21 ?_
  refine lv_iconst (v := 1) hx hb dX8_begins_24 (by decide) ?_
  refine lv_iadd hx hb dX8_begins_25 ?_
  refine lv_topi (fun x_1 ex_1 => ?_)
  obtain rfl : x_1 = 4 := ex_1.trans (by decide)
  refine va_put (D := D) (ci := 7) (v := .int 4) (ty := .int) (C := RX8) (T := TX8) (N := 16) hx hb hts (fun _ h => List.mem_cons_of_mem _ (List.mem_append_right _ h)) tyX8 tyX8_ok nmX8 hown hK hP hD hS 0 rfl rfl 13 (by decide) (hts (.fieldLink RX8 208 "WinterWalkModel" "traced" "I") (List.mem_of_getElem? (i := 1) rfl)) (fun _ h9 => h9) rfl (by decide +kernel) rfl rfl (Nat.le_of_ble_eq_true rfl) dX8_begins_26 (fun H locs hP hD hS => ?_)
  have hP : va_P D kl [(h, .inr (7, [.ref sl, .int na, .ref zs, .ref ln, .ref ir, .ref tk, .int su, .int le, .ref tb, .int fu, .int ap, .int pp, .ref tr, .int 4, .ref fz, .int nm])), (tr, .inl (cI, 16, .inl (upd trf (3 : Int32).toNatClampNeg 10)))] H := hP
  have hD : va_D A [(h, .inr (7, [.ref sl, .int na, .ref zs, .ref ln, .ref ir, .ref tk, .int su, .int le, .ref tb, .int fu, .int ap, .int pp, .ref tr, .int 4, .ref fz, .int nm])), (tr, .inl (cI, 16, .inl (upd trf (3 : Int32).toNatClampNeg 10)))] := hD
  exact wr_v hx hb hr hlocks hS () (by trivial) (hP.sub [0, 1] rfl) (hD.sub [0, 1] (by decide) rfl) dX8_begins_29
set_option maxHeartbeats 4000000 in
set_option maxRecDepth 100000 in
theorem t_X8_size10_0_3 (l : Launch) (D : va_G) (cI cB cQ : ClassId) (sz : Nat) (h : Nat) (sl : Nat) (zs : Nat) (ln : Nat) (ir : Nat) (tk : Nat) (tb : Nat) (tr : Nat) (fz : Nat) (na : Int32) (su : Int32) (le : Int32) (fu : Int32) (ap : Int32) (pp : Int32) (nm : Int32) (v : Int32) (sf : Nat → Int32) (trf : Nat → Int32) (v0 : Int) (hsi : SI sf v0) (h_na : 0 ≤ na.toInt ∧ na.toInt ≤ 24) (h_le : 0 ≤ le.toInt ∧ le.toInt ≤ 120) (h_ap : 0 ≤ ap.toInt ∧ ap.toInt ≤ 120) (h_pp : 0 ≤ pp.toInt ∧ pp.toInt ≤ 120) (h_v : 0 ≤ v.toInt ∧ v.toInt ≤ 2) : mi l yX8_size10 wsX8_size10 ({ frames := 1, cells := 0, slots := 0, locals := 21 }) D cI cB cQ [.ref h, .int v] sz [(h, .inr (7, [.ref sl, .int na, .ref zs, .ref ln, .ref ir, .ref tk, .int su, .int le, .ref tb, .int fu, .int ap, .int pp, .ref tr, .int 3, .ref fz, .int nm])), (sl, .inl (cI, 1653, .inl sf)), (tr, .inl (cI, 16, .inl trf))] (fun (r : Int32) (_u : Unit) => True) (fun _ => [(h, .inr (7, [.ref sl, .int na, .ref zs, .ref ln, .ref ir, .ref tk, .int su, .int le, .ref tb, .int fu, .int ap, .int pp, .ref tr, .int 4, .ref fz, .int nm])), (sl, .inl (cI, 1653, .inl sf)), (tr, .inl (cI, 16, .inl (upd trf (3 : Int32).toNatClampNeg 10)))]) 0 0 := by
  refine wm_i (cc := cX8_size10) (maxL := 2) (ret := (some .int)) (by decide) rfl (Nat.le_of_ble_eq_true rfl) ?_
  intro p e s m below meth c A ls hx hb hr hml hown hts hlocks hin hP hK hD hN hA hl hS
  have hown : s.vm.findClass RX8 = some m.cls := hown
  have hl : lv_has ls 2 [(0, .ref h), (1, .int v)] := hl
  change W p l e ({ frames := 1, cells := 0, slots := 0, locals := 21 }) s m ([.ref h, .int v] : List Value).toArray below meth c s.heap [] 0 0 (MQ below (va_Qi (fun (r : Int32) (_u : Unit) => True) (fun u t => wb D A ((fun _ => [(h, .inr (7, [.ref sl, .int na, .ref zs, .ref ln, .ref ir, .ref tk, .int su, .int le, .ref tb, .int fu, .int ap, .int pp, .ref tr, .int 4, .ref fz, .int nm])), (sl, .inl (cI, 1653, .inl sf)), (tr, .inl (cI, 16, .inl (upd trf (3 : Int32).toNatClampNeg 10)))]) u) t) A) ([.ref h, .int v] : List Value).toArray s 0 0 A) (F0 m 0 ls [])
  refine lv_aload_n hx hb dX8_size10_0 rfl (lv_at hl 0 rfl) ?_
  refine lv_bipush (v := 10) hx hb dX8_size10_1 (by decide) ?_
  have k_1 := (t_X8_begins_10_3 l D cI cB cQ s.heap.size h sl zs ln ir tk tb tr fz na su le fu ap pp nm trf (by omega) (by omega) (by omega) (by omega))
  refine wc_v (WC := [(h, .inr (7, [.ref sl, .int na, .ref zs, .ref ln, .ref ir, .ref tk, .int su, .int le, .ref tb, .int fu, .int ap, .int pp, .ref tr, .int 3, .ref fz, .int nm])), (tr, .inl (cI, 16, .inl trf))]) (WR := [(sl, .inl (cI, 1653, .inl sf))]) (va_runV (As := [.int 10]) (rest := []) ⟨hx, hb, hml, hown, hts⟩ k_1 (cwV 1 hts gX8_size10_X8_begins rfl rfl rfl (by decide +kernel) ⟨Nat.le_of_ble_eq_true rfl, Nat.le_of_ble_eq_true rfl⟩) (wp_V hP hK hD hN [0, 2] (by decide) rfl (ci := 7) rfl rfl) rfl rfl hl.1 rfl (lv_room (Nat.le_of_ble_eq_true rfl)) dX8_size10_3 ⟨Nat.le_of_ble_eq_true rfl, Nat.le_of_ble_eq_true rfl⟩) hP hD hS hA [0, 2] [1] rfl rfl (by decide) (by decide) (fun u_1 H locs hw_1 hP hD hS => ?_)
  clear k_1
  have hP : va_P D kl [(sl, .inl (cI, 1653, .inl sf)), (h, .inr (7, [.ref sl, .int na, .ref zs, .ref ln, .ref ir, .ref tk, .int su, .int le, .ref tb, .int fu, .int ap, .int pp, .ref tr, .int 4, .ref fz, .int nm])), (tr, .inl (cI, 16, .inl (upd trf (3 : Int32).toNatClampNeg 10)))] H := hP
  have hD : va_D A [(sl, .inl (cI, 1653, .inl sf)), (h, .inr (7, [.ref sl, .int na, .ref zs, .ref ln, .ref ir, .ref tk, .int su, .int le, .ref tb, .int fu, .int ap, .int pp, .ref tr, .int 4, .ref fz, .int nm])), (tr, .inl (cI, 16, .inl (upd trf (3 : Int32).toNatClampNeg 10)))] := hD
  clear hw_1
  refine lv_aload_n hx hb dX8_size10_6 rfl (lv_at hl 0 rfl) ?_
  refine va_get (D := D) (ci := 7) (v := .ref sl) (C := RX8) (T := TX8) (N := 16) hx hb hts (fun _ h => List.mem_cons_of_mem _ (List.mem_append_right _ h)) hown hK hP 1 rfl rfl 0 (by decide) (hts (.fieldLink RX8 7 "WinterWalkModel" "slot" "[I") (List.mem_of_getElem? (i := 1) rfl)) (fun _ h9 => h9) rfl dX8_size10_7 ?_
  refine lv_bipush (v := 48) hx hb dX8_size10_10 (by decide) ?_
  refine lv_iload_n hx hb dX8_size10_12 rfl (lv_at hl 1 rfl) ?_
  refine lv_iadd hx hb dX8_size10_13 ?_
  refine lv_topi (fun x_2 ex_2 => ?_)
  have e_2 : x_2.toInt = 48 + v.toInt := by rw [ex_2]; exact zi_add (by decide) (rfl) (by omega) (by omega)
  clear ex_2
  refine va_iald hx hb hK hP 0 0 rfl rfl (zi_in (by omega) (by omega)) dX8_size10_14 ?_
  refine lv_topi (fun x_3 ex_3 => ?_)
  have f_3 : 0 ≤ x_3.toInt ∧ x_3.toInt ≤ 7 := by rw [ex_3]; exact si_a hsi (s := 0) (k := v.toInt) (by omega) (by omega) (by omega)
  clear ex_3
  exact wr_i (v := x_3) hx hb hr hlocks hS () (by trivial) (hP.sub [1, 0, 2] rfl) (hD.sub [1, 0, 2] (by decide) rfl) dX8_size10_15
set_option maxHeartbeats 4000000 in
set_option maxRecDepth 100000 in
theorem t_X8_size13_0_2 (l : Launch) (D : va_G) (cI cB cQ : ClassId) (sz : Nat) (h : Nat) (sl : Nat) (zs : Nat) (ln : Nat) (ir : Nat) (tk : Nat) (tb : Nat) (tr : Nat) (fz : Nat) (na : Int32) (su : Int32) (le : Int32) (fu : Int32) (ap : Int32) (pp : Int32) (nm : Int32) (v : Int32) (sf : Nat → Int32) (trf : Nat → Int32) (v0 : Int) (hsi : SI sf v0) (h_na : 0 ≤ na.toInt ∧ na.toInt ≤ 24) (h_le : 0 ≤ le.toInt ∧ le.toInt ≤ 120) (h_ap : 0 ≤ ap.toInt ∧ ap.toInt ≤ 120) (h_pp : 0 ≤ pp.toInt ∧ pp.toInt ≤ 120) (h_v : 0 ≤ v.toInt ∧ v.toInt ≤ 2) : mi l yX8_size13 wsX8_size13 ({ frames := 2, cells := 0, slots := 0, locals := 42 }) D cI cB cQ [.ref h, .int v] sz [(h, .inr (7, [.ref sl, .int na, .ref zs, .ref ln, .ref ir, .ref tk, .int su, .int le, .ref tb, .int fu, .int ap, .int pp, .ref tr, .int 2, .ref fz, .int nm])), (sl, .inl (cI, 1653, .inl sf)), (tr, .inl (cI, 16, .inl trf))] (fun (r : Int32) (_u : Unit) => True) (fun _ => [(h, .inr (7, [.ref sl, .int na, .ref zs, .ref ln, .ref ir, .ref tk, .int su, .int le, .ref tb, .int fu, .int ap, .int pp, .ref tr, .int 4, .ref fz, .int nm])), (sl, .inl (cI, 1653, .inl sf)), (tr, .inl (cI, 16, .inl (upd (upd trf (2 : Int32).toNatClampNeg 13) (3 : Int32).toNatClampNeg 10)))]) 0 0 := by
  refine wm_i (cc := cX8_size13) (maxL := 2) (ret := (some .int)) (by decide) rfl (Nat.le_of_ble_eq_true rfl) ?_
  intro p e s m below meth c A ls hx hb hr hml hown hts hlocks hin hP hK hD hN hA hl hS
  have hown : s.vm.findClass RX8 = some m.cls := hown
  have hl : lv_has ls 2 [(0, .ref h), (1, .int v)] := hl
  change W p l e ({ frames := 2, cells := 0, slots := 0, locals := 42 }) s m ([.ref h, .int v] : List Value).toArray below meth c s.heap [] 0 0 (MQ below (va_Qi (fun (r : Int32) (_u : Unit) => True) (fun u t => wb D A ((fun _ => [(h, .inr (7, [.ref sl, .int na, .ref zs, .ref ln, .ref ir, .ref tk, .int su, .int le, .ref tb, .int fu, .int ap, .int pp, .ref tr, .int 4, .ref fz, .int nm])), (sl, .inl (cI, 1653, .inl sf)), (tr, .inl (cI, 16, .inl (upd (upd trf (2 : Int32).toNatClampNeg 13) (3 : Int32).toNatClampNeg 10)))]) u) t) A) ([.ref h, .int v] : List Value).toArray s 0 0 A) (F0 m 0 ls [])
  refine lv_aload_n hx hb dX8_size13_0 rfl (lv_at hl 0 rfl) ?_
  refine lv_bipush (v := 13) hx hb dX8_size13_1 (by decide) ?_
  have k_1 := (t_X8_begins_13_2 l D cI cB cQ s.heap.size h sl zs ln ir tk tb tr fz na su le fu ap pp nm trf (by omega) (by omega) (by omega) (by omega))
  refine wc_v (WC := [(h, .inr (7, [.ref sl, .int na, .ref zs, .ref ln, .ref ir, .ref tk, .int su, .int le, .ref tb, .int fu, .int ap, .int pp, .ref tr, .int 2, .ref fz, .int nm])), (tr, .inl (cI, 16, .inl trf))]) (WR := [(sl, .inl (cI, 1653, .inl sf))]) (va_runV (As := [.int 13]) (rest := []) ⟨hx, hb, hml, hown, hts⟩ k_1 (cwV 1 hts gX8_size13_X8_begins rfl rfl rfl (by decide +kernel) ⟨Nat.le_of_ble_eq_true rfl, Nat.le_of_ble_eq_true rfl⟩) (wp_V hP hK hD hN [0, 2] (by decide) rfl (ci := 7) rfl rfl) rfl rfl hl.1 rfl (lv_room (Nat.le_of_ble_eq_true rfl)) dX8_size13_3 ⟨Nat.le_of_ble_eq_true rfl, Nat.le_of_ble_eq_true rfl⟩) hP hD hS hA [0, 2] [1] rfl rfl (by decide) (by decide) (fun u_1 H locs hw_1 hP hD hS => ?_)
  clear k_1
  have hP : va_P D kl [(sl, .inl (cI, 1653, .inl sf)), (h, .inr (7, [.ref sl, .int na, .ref zs, .ref ln, .ref ir, .ref tk, .int su, .int le, .ref tb, .int fu, .int ap, .int pp, .ref tr, .int 3, .ref fz, .int nm])), (tr, .inl (cI, 16, .inl (upd trf (2 : Int32).toNatClampNeg 13)))] H := hP
  have hD : va_D A [(sl, .inl (cI, 1653, .inl sf)), (h, .inr (7, [.ref sl, .int na, .ref zs, .ref ln, .ref ir, .ref tk, .int su, .int le, .ref tb, .int fu, .int ap, .int pp, .ref tr, .int 3, .ref fz, .int nm])), (tr, .inl (cI, 16, .inl (upd trf (2 : Int32).toNatClampNeg 13)))] := hD
  clear hw_1
  refine lv_aload_n hx hb dX8_size13_6 rfl (lv_at hl 0 rfl) ?_
  refine lv_iload_n hx hb dX8_size13_7 rfl (lv_at hl 1 rfl) ?_
  have k_2 := (t_X8_size10_0_3 l D cI cB cQ H.size h sl zs ln ir tk tb tr fz na su le fu ap pp nm v sf (upd trf (2 : Int32).toNatClampNeg 13) v0 hsi (by omega) (by omega) (by omega) (by omega) (by omega))
  refine wc_i (WC := [(h, .inr (7, [.ref sl, .int na, .ref zs, .ref ln, .ref ir, .ref tk, .int su, .int le, .ref tb, .int fu, .int ap, .int pp, .ref tr, .int 3, .ref fz, .int nm])), (sl, .inl (cI, 1653, .inl sf)), (tr, .inl (cI, 16, .inl (upd trf (2 : Int32).toNatClampNeg 13)))]) (WR := []) (va_runV (As := [.int v]) (rest := []) ⟨hx, hb, hml, hown, hts⟩ k_2 (cwV 1 hts gX8_size13_X8_size10 rfl rfl rfl (by decide +kernel) ⟨Nat.le_of_ble_eq_true rfl, Nat.le_of_ble_eq_true rfl⟩) (wp_V hP hK hD hN [1, 0, 2] (by decide) rfl (ci := 7) rfl rfl) rfl rfl hl.1 rfl (lv_room (Nat.le_of_ble_eq_true rfl)) dX8_size13_8 ⟨Nat.le_of_ble_eq_true rfl, Nat.le_of_ble_eq_true rfl⟩) hP hD hS hA [1, 0, 2] [] rfl rfl (by decide) (by decide) (fun r_2 u_2 H locs hw_2 hP hD hS => ?_)
  clear k_2
  have hP : va_P D kl [(h, .inr (7, [.ref sl, .int na, .ref zs, .ref ln, .ref ir, .ref tk, .int su, .int le, .ref tb, .int fu, .int ap, .int pp, .ref tr, .int 4, .ref fz, .int nm])), (sl, .inl (cI, 1653, .inl sf)), (tr, .inl (cI, 16, .inl (upd (upd trf (2 : Int32).toNatClampNeg 13) (3 : Int32).toNatClampNeg 10)))] H := hP
  have hD : va_D A [(h, .inr (7, [.ref sl, .int na, .ref zs, .ref ln, .ref ir, .ref tk, .int su, .int le, .ref tb, .int fu, .int ap, .int pp, .ref tr, .int 4, .ref fz, .int nm])), (sl, .inl (cI, 1653, .inl sf)), (tr, .inl (cI, 16, .inl (upd (upd trf (2 : Int32).toNatClampNeg 13) (3 : Int32).toNatClampNeg 10)))] := hD
  clear hw_2
  refine lv_bipush (v := 100) hx hb dX8_size13_11 (by decide) ?_
  refine lv_isub hx hb dX8_size13_13 ?_
  refine lv_topi (fun x_3 ex_3 => ?_)
  clear ex_3
  exact wr_i (v := x_3) hx hb hr hlocks hS () (by trivial) (hP.sub [0, 1, 2] rfl) (hD.sub [0, 1, 2] (by decide) rfl) dX8_size13_14
set_option maxHeartbeats 4000000 in
set_option maxRecDepth 100000 in
theorem t_X8_sizeOf_4_2 (l : Launch) (D : va_G) (cI cB cQ : ClassId) (sz : Nat) (h : Nat) (sl : Nat) (zs : Nat) (ln : Nat) (ir : Nat) (tk : Nat) (tb : Nat) (tr : Nat) (fz : Nat) (na : Int32) (su : Int32) (le : Int32) (fu : Int32) (ap : Int32) (pp : Int32) (nm : Int32) (v : Int32) (sf : Nat → Int32) (trf : Nat → Int32) (v0 : Int) (hsi : SI sf v0) (h_na : 0 ≤ na.toInt ∧ na.toInt ≤ 24) (h_le : 0 ≤ le.toInt ∧ le.toInt ≤ 120) (h_ap : 0 ≤ ap.toInt ∧ ap.toInt ≤ 120) (h_pp : 0 ≤ pp.toInt ∧ pp.toInt ≤ 120) (h_v : 0 ≤ v.toInt ∧ v.toInt ≤ 2) (h_kd : sf (20 + v.toNatClampNeg) = 4) : mi l yX8_sizeOf wsX8_sizeOf ({ frames := 3, cells := 0, slots := 0, locals := 63 }) D cI cB cQ [.ref h, .int v] sz [(h, .inr (7, [.ref sl, .int na, .ref zs, .ref ln, .ref ir, .ref tk, .int su, .int le, .ref tb, .int fu, .int ap, .int pp, .ref tr, .int 2, .ref fz, .int nm])), (sl, .inl (cI, 1653, .inl sf)), (tr, .inl (cI, 16, .inl trf))] (fun (r : Int32) (_u : Unit) => True) (fun _ => [(h, .inr (7, [.ref sl, .int na, .ref zs, .ref ln, .ref ir, .ref tk, .int su, .int le, .ref tb, .int fu, .int ap, .int pp, .ref tr, .int 4, .ref fz, .int nm])), (sl, .inl (cI, 1653, .inl sf)), (tr, .inl (cI, 16, .inl (upd (upd trf (2 : Int32).toNatClampNeg 13) (3 : Int32).toNatClampNeg 10)))]) 0 0 := by
  refine wm_i (cc := cX8_sizeOf) (maxL := 3) (ret := (some .int)) (by decide) rfl (Nat.le_of_ble_eq_true rfl) ?_
  intro p e s m below meth c A ls hx hb hr hml hown hts hlocks hin hP hK hD hN hA hl hS
  have hown : s.vm.findClass RX8 = some m.cls := hown
  have hl : lv_has ls 3 [(0, .ref h), (1, .int v)] := hl
  change W p l e ({ frames := 3, cells := 0, slots := 0, locals := 63 }) s m ([.ref h, .int v] : List Value).toArray below meth c s.heap [] 0 0 (MQ below (va_Qi (fun (r : Int32) (_u : Unit) => True) (fun u t => wb D A ((fun _ => [(h, .inr (7, [.ref sl, .int na, .ref zs, .ref ln, .ref ir, .ref tk, .int su, .int le, .ref tb, .int fu, .int ap, .int pp, .ref tr, .int 4, .ref fz, .int nm])), (sl, .inl (cI, 1653, .inl sf)), (tr, .inl (cI, 16, .inl (upd (upd trf (2 : Int32).toNatClampNeg 13) (3 : Int32).toNatClampNeg 10)))]) u) t) A) ([.ref h, .int v] : List Value).toArray s 0 0 A) (F0 m 0 ls [])
  refine lv_aload_n hx hb dX8_sizeOf_0 rfl (lv_at hl 0 rfl) ?_
  refine va_get (D := D) (ci := 7) (v := .ref sl) (C := RX8) (T := TX8) (N := 16) hx hb hts (fun _ h => List.mem_cons_of_mem _ (List.mem_append_right _ h)) hown hK hP 0 rfl rfl 0 (by decide) (hts (.fieldLink RX8 7 "WinterWalkModel" "slot" "[I") (List.mem_of_getElem? (i := 1) rfl)) (fun _ h9 => h9) rfl dX8_sizeOf_1 ?_
  refine lv_bipush (v := 20) hx hb dX8_sizeOf_4 (by decide) ?_
  refine lv_iload_n hx hb dX8_sizeOf_6 rfl (lv_at hl 1 rfl) ?_
  refine lv_iadd hx hb dX8_sizeOf_7 ?_
  refine lv_topi (fun x_1 ex_1 => ?_)
  have e_1 : x_1.toInt = 20 + v.toInt := by rw [ex_1]; exact zi_add (by decide) (rfl) (by omega) (by omega)
  clear ex_1
  refine va_iald hx hb hK hP 1 0 rfl rfl (zi_in (by omega) (by omega)) dX8_sizeOf_8 ?_
  refine lv_topi (fun x_2 ex_2 => ?_)
  obtain rfl : x_2 = 4 := ex_2.trans ((congrArg sf (show (x_1 : Int32).toNatClampNeg = 20 + v.toNatClampNeg from by have h9 := zi_cn (x := x_1) (by omega); have h8 := zi_cn (x := v) (by omega); omega)).trans h_kd)
  refine lv_istore_n (lv' := [(2, .int 4), (0, .ref h), (1, .int v)]) hx hb dX8_sizeOf_9 rfl hl (by decide) rfl (fun ls hl => ?_)
  refine lv_iload_n hx hb dX8_sizeOf_10 rfl (lv_at hl 0 rfl) ?_
  refine lv_iconst (v := 1) hx hb dX8_sizeOf_11 (by decide) ?_
  refine lv_icmp_eq (tgt := 20) hx hb dX8_sizeOf_12 (by decide) (fun c9 => absurd c9 (by decide)) (fun _ => ?_)
  refine lv_iload_n hx hb dX8_sizeOf_15 rfl (lv_at hl 0 rfl) ?_
  refine lv_iconst (v := 3) hx hb dX8_sizeOf_16 (by decide) ?_
  refine lv_icmp_ne (tgt := 26) hx hb dX8_sizeOf_17 (by decide) (fun _ => ?_) (fun c9 => absurd c9 (by decide))
  refine lv_iload_n hx hb dX8_sizeOf_26 rfl (lv_at hl 0 rfl) ?_
  refine lv_iconst (v := 4) hx hb dX8_sizeOf_27 (by decide) ?_
  refine lv_icmp_ne (tgt := 37) hx hb dX8_sizeOf_28 (by decide) (fun c9 => absurd (by decide) c9) (fun _ => ?_)
  refine lv_aload_n hx hb dX8_sizeOf_31 rfl (lv_at hl 1 rfl) ?_
  refine lv_iload_n hx hb dX8_sizeOf_32 rfl (lv_at hl 2 rfl) ?_
  have k_3 := (t_X8_size13_0_2 l D cI cB cQ s.heap.size h sl zs ln ir tk tb tr fz na su le fu ap pp nm v sf trf v0 hsi (by omega) (by omega) (by omega) (by omega) (by omega))
  refine wc_i (WC := [(h, .inr (7, [.ref sl, .int na, .ref zs, .ref ln, .ref ir, .ref tk, .int su, .int le, .ref tb, .int fu, .int ap, .int pp, .ref tr, .int 2, .ref fz, .int nm])), (sl, .inl (cI, 1653, .inl sf)), (tr, .inl (cI, 16, .inl trf))]) (WR := []) (va_runV (As := [.int v]) (rest := []) ⟨hx, hb, hml, hown, hts⟩ k_3 (cwV 1 hts gX8_sizeOf_X8_size13 rfl rfl rfl (by decide +kernel) ⟨Nat.le_of_ble_eq_true rfl, Nat.le_of_ble_eq_true rfl⟩) (wp_V hP hK hD hN [0, 1, 2] (by decide) rfl (ci := 7) rfl rfl) rfl rfl hl.1 rfl (lv_room (Nat.le_of_ble_eq_true rfl)) dX8_sizeOf_33 ⟨Nat.le_of_ble_eq_true rfl, Nat.le_of_ble_eq_true rfl⟩) hP hD hS hA [0, 1, 2] [] rfl rfl (by decide) (by decide) (fun r_3 u_3 H locs hw_3 hP hD hS => ?_)
  clear k_3
  have hP : va_P D kl [(h, .inr (7, [.ref sl, .int na, .ref zs, .ref ln, .ref ir, .ref tk, .int su, .int le, .ref tb, .int fu, .int ap, .int pp, .ref tr, .int 4, .ref fz, .int nm])), (sl, .inl (cI, 1653, .inl sf)), (tr, .inl (cI, 16, .inl (upd (upd trf (2 : Int32).toNatClampNeg 13) (3 : Int32).toNatClampNeg 10)))] H := hP
  have hD : va_D A [(h, .inr (7, [.ref sl, .int na, .ref zs, .ref ln, .ref ir, .ref tk, .int su, .int le, .ref tb, .int fu, .int ap, .int pp, .ref tr, .int 4, .ref fz, .int nm])), (sl, .inl (cI, 1653, .inl sf)), (tr, .inl (cI, 16, .inl (upd (upd trf (2 : Int32).toNatClampNeg 13) (3 : Int32).toNatClampNeg 10)))] := hD
  clear hw_3
  exact wr_i (v := r_3) hx hb hr hlocks hS () (by trivial) (hP.sub [0, 1, 2] rfl) (hD.sub [0, 1, 2] (by decide) rfl) dX8_sizeOf_36
set_option maxHeartbeats 4000000 in
set_option maxRecDepth 100000 in
theorem t_X8_markOf_4_0 (l : Launch) (D : va_G) (cI cB cQ : ClassId) (sz : Nat) (h : Nat) (sl : Nat) (zs : Nat) (ln : Nat) (ir : Nat) (tk : Nat) (tb : Nat) (tr : Nat) (fz : Nat) (na : Int32) (su : Int32) (le : Int32) (fu : Int32) (ap : Int32) (pp : Int32) (nm : Int32) (v : Int32) (sf : Nat → Int32) (trf : Nat → Int32) (v0 : Int) (hsi : SI sf v0) (h_na : 0 ≤ na.toInt ∧ na.toInt ≤ 24) (h_le : 0 ≤ le.toInt ∧ le.toInt ≤ 120) (h_ap : 0 ≤ ap.toInt ∧ ap.toInt ≤ 120) (h_pp : 0 ≤ pp.toInt ∧ pp.toInt ≤ 120) (h_v : 0 ≤ v.toInt ∧ v.toInt ≤ 2) (h_kd : sf (20 + v.toNatClampNeg) = 4) : mi l yX8_markOf wsX8_markOf ({ frames := 4, cells := 0, slots := 0, locals := 85 }) D cI cB cQ [.ref h, .int v] sz [(h, .inr (7, [.ref sl, .int na, .ref zs, .ref ln, .ref ir, .ref tk, .int su, .int le, .ref tb, .int fu, .int ap, .int pp, .ref tr, .int 0, .ref fz, .int nm])), (sl, .inl (cI, 1653, .inl sf)), (tr, .inl (cI, 16, .inl trf))] (fun (r : Int32) (_u : Unit) => True) (fun _ => [(h, .inr (7, [.ref sl, .int na, .ref zs, .ref ln, .ref ir, .ref tk, .int su, .int le, .ref tb, .int fu, .int ap, .int pp, .ref tr, .int 4, .ref fz, .int nm])), (sl, .inl (cI, 1653, .inl sf)), (tr, .inl (cI, 16, .inl (upd (upd (upd (upd trf (0 : Int32).toNatClampNeg 23) (1 : Int32).toNatClampNeg 20) (2 : Int32).toNatClampNeg 13) (3 : Int32).toNatClampNeg 10)))]) 0 0 := by
  refine wm_i (cc := cX8_markOf) (maxL := 3) (ret := (some .int)) (by decide) rfl (Nat.le_of_ble_eq_true rfl) ?_
  intro p e s m below meth c A ls hx hb hr hml hown hts hlocks hin hP hK hD hN hA hl hS
  have hown : s.vm.findClass RX8 = some m.cls := hown
  have hl : lv_has ls 3 [(0, .ref h), (1, .int v)] := hl
  change W p l e ({ frames := 4, cells := 0, slots := 0, locals := 85 }) s m ([.ref h, .int v] : List Value).toArray below meth c s.heap [] 0 0 (MQ below (va_Qi (fun (r : Int32) (_u : Unit) => True) (fun u t => wb D A ((fun _ => [(h, .inr (7, [.ref sl, .int na, .ref zs, .ref ln, .ref ir, .ref tk, .int su, .int le, .ref tb, .int fu, .int ap, .int pp, .ref tr, .int 4, .ref fz, .int nm])), (sl, .inl (cI, 1653, .inl sf)), (tr, .inl (cI, 16, .inl (upd (upd (upd (upd trf (0 : Int32).toNatClampNeg 23) (1 : Int32).toNatClampNeg 20) (2 : Int32).toNatClampNeg 13) (3 : Int32).toNatClampNeg 10)))]) u) t) A) ([.ref h, .int v] : List Value).toArray s 0 0 A) (F0 m 0 ls [])
  refine lv_aload_n hx hb dX8_markOf_0 rfl (lv_at hl 0 rfl) ?_
  refine va_get (D := D) (ci := 7) (v := .ref sl) (C := RX8) (T := TX8) (N := 16) hx hb hts (fun _ h => List.mem_cons_of_mem _ (List.mem_append_right _ h)) hown hK hP 0 rfl rfl 0 (by decide) (hts (.fieldLink RX8 7 "WinterWalkModel" "slot" "[I") (List.mem_of_getElem? (i := 1) rfl)) (fun _ h9 => h9) rfl dX8_markOf_1 ?_
  refine lv_bipush (v := 20) hx hb dX8_markOf_4 (by decide) ?_
  refine lv_iload_n hx hb dX8_markOf_6 rfl (lv_at hl 1 rfl) ?_
  refine lv_iadd hx hb dX8_markOf_7 ?_
  refine lv_topi (fun x_1 ex_1 => ?_)
  have e_1 : x_1.toInt = 20 + v.toInt := by rw [ex_1]; exact zi_add (by decide) (rfl) (by omega) (by omega)
  clear ex_1
  refine va_iald hx hb hK hP 1 0 rfl rfl (zi_in (by omega) (by omega)) dX8_markOf_8 ?_
  refine lv_topi (fun x_2 ex_2 => ?_)
  obtain rfl : x_2 = 4 := ex_2.trans ((congrArg sf (show (x_1 : Int32).toNatClampNeg = 20 + v.toNatClampNeg from by have h9 := zi_cn (x := x_1) (by omega); have h8 := zi_cn (x := v) (by omega); omega)).trans h_kd)
  refine lv_iconst (v := 4) hx hb dX8_markOf_9 (by decide) ?_
  refine lv_icmp_ge (tgt := 19) hx hb dX8_markOf_10 (by decide) (fun _ => ?_) (fun c9 => absurd (by decide) c9)
  refine lv_aload_n hx hb dX8_markOf_19 rfl (lv_at hl 0 rfl) ?_
  refine lv_bipush (v := 23) hx hb dX8_markOf_20 (by decide) ?_
  have k_3 := (t_X8_begins_23_0 l D cI cB cQ s.heap.size h sl zs ln ir tk tb tr fz na su le fu ap pp nm trf (by omega) (by omega) (by omega) (by omega))
  refine wc_v (WC := [(h, .inr (7, [.ref sl, .int na, .ref zs, .ref ln, .ref ir, .ref tk, .int su, .int le, .ref tb, .int fu, .int ap, .int pp, .ref tr, .int 0, .ref fz, .int nm])), (tr, .inl (cI, 16, .inl trf))]) (WR := [(sl, .inl (cI, 1653, .inl sf))]) (va_runV (As := [.int 23]) (rest := []) ⟨hx, hb, hml, hown, hts⟩ k_3 (cwV 1 hts gX8_markOf_X8_begins rfl rfl rfl (by decide +kernel) ⟨Nat.le_of_ble_eq_true rfl, Nat.le_of_ble_eq_true rfl⟩) (wp_V hP hK hD hN [0, 2] (by decide) rfl (ci := 7) rfl rfl) rfl rfl hl.1 rfl (lv_room (Nat.le_of_ble_eq_true rfl)) dX8_markOf_22 ⟨Nat.le_of_ble_eq_true rfl, Nat.le_of_ble_eq_true rfl⟩) hP hD hS hA [0, 2] [1] rfl rfl (by decide) (by decide) (fun u_3 H locs hw_3 hP hD hS => ?_)
  clear k_3
  have hP : va_P D kl [(sl, .inl (cI, 1653, .inl sf)), (h, .inr (7, [.ref sl, .int na, .ref zs, .ref ln, .ref ir, .ref tk, .int su, .int le, .ref tb, .int fu, .int ap, .int pp, .ref tr, .int 1, .ref fz, .int nm])), (tr, .inl (cI, 16, .inl (upd trf (0 : Int32).toNatClampNeg 23)))] H := hP
  have hD : va_D A [(sl, .inl (cI, 1653, .inl sf)), (h, .inr (7, [.ref sl, .int na, .ref zs, .ref ln, .ref ir, .ref tk, .int su, .int le, .ref tb, .int fu, .int ap, .int pp, .ref tr, .int 1, .ref fz, .int nm])), (tr, .inl (cI, 16, .inl (upd trf (0 : Int32).toNatClampNeg 23)))] := hD
  clear hw_3
  refine lv_aload_n hx hb dX8_markOf_25 rfl (lv_at hl 0 rfl) ?_
  refine lv_iload_n hx hb dX8_markOf_26 rfl (lv_at hl 1 rfl) ?_
  have k_4 := (t_X8_mark20_0_1 l D cI cB cQ H.size h sl zs ln ir tk tb tr fz na su le fu ap pp nm v sf (upd trf (0 : Int32).toNatClampNeg 23) v0 hsi (by omega) (by omega) (by omega) (by omega) (by omega))
  refine wc_i (WC := [(h, .inr (7, [.ref sl, .int na, .ref zs, .ref ln, .ref ir, .ref tk, .int su, .int le, .ref tb, .int fu, .int ap, .int pp, .ref tr, .int 1, .ref fz, .int nm])), (sl, .inl (cI, 1653, .inl sf)), (tr, .inl (cI, 16, .inl (upd trf (0 : Int32).toNatClampNeg 23)))]) (WR := []) (va_runV (As := [.int v]) (rest := []) ⟨hx, hb, hml, hown, hts⟩ k_4 (cwV 1 hts gX8_markOf_X8_mark20 rfl rfl rfl (by decide +kernel) ⟨Nat.le_of_ble_eq_true rfl, Nat.le_of_ble_eq_true rfl⟩) (wp_V hP hK hD hN [1, 0, 2] (by decide) rfl (ci := 7) rfl rfl) rfl rfl hl.1 rfl (lv_room (Nat.le_of_ble_eq_true rfl)) dX8_markOf_27 ⟨Nat.le_of_ble_eq_true rfl, Nat.le_of_ble_eq_true rfl⟩) hP hD hS hA [1, 0, 2] [] rfl rfl (by decide) (by decide) (fun r_4 u_4 H locs hw_4 hP hD hS => ?_)
  clear k_4
  have hP : va_P D kl [(h, .inr (7, [.ref sl, .int na, .ref zs, .ref ln, .ref ir, .ref tk, .int su, .int le, .ref tb, .int fu, .int ap, .int pp, .ref tr, .int 2, .ref fz, .int nm])), (sl, .inl (cI, 1653, .inl sf)), (tr, .inl (cI, 16, .inl (upd (upd trf (0 : Int32).toNatClampNeg 23) (1 : Int32).toNatClampNeg 20)))] H := hP
  have hD : va_D A [(h, .inr (7, [.ref sl, .int na, .ref zs, .ref ln, .ref ir, .ref tk, .int su, .int le, .ref tb, .int fu, .int ap, .int pp, .ref tr, .int 2, .ref fz, .int nm])), (sl, .inl (cI, 1653, .inl sf)), (tr, .inl (cI, 16, .inl (upd (upd trf (0 : Int32).toNatClampNeg 23) (1 : Int32).toNatClampNeg 20)))] := hD
  clear hw_4
  refine lv_istore_n (lv' := [(2, .int r_4), (0, .ref h), (1, .int v)]) hx hb dX8_markOf_30 rfl hl (by decide) rfl (fun ls hl => ?_)
  refine lv_iload_n hx hb dX8_markOf_31 rfl (lv_at hl 0 rfl) ?_
  refine lv_aload_n hx hb dX8_markOf_32 rfl (lv_at hl 1 rfl) ?_
  refine lv_iload_n hx hb dX8_markOf_33 rfl (lv_at hl 2 rfl) ?_
  have k_5 := (t_X8_sizeOf_4_2 l D cI cB cQ H.size h sl zs ln ir tk tb tr fz na su le fu ap pp nm v sf (upd (upd trf (0 : Int32).toNatClampNeg 23) (1 : Int32).toNatClampNeg 20) v0 hsi (by omega) (by omega) (by omega) (by omega) (by omega) (h_kd))
  refine wc_i (WC := [(h, .inr (7, [.ref sl, .int na, .ref zs, .ref ln, .ref ir, .ref tk, .int su, .int le, .ref tb, .int fu, .int ap, .int pp, .ref tr, .int 2, .ref fz, .int nm])), (sl, .inl (cI, 1653, .inl sf)), (tr, .inl (cI, 16, .inl (upd (upd trf (0 : Int32).toNatClampNeg 23) (1 : Int32).toNatClampNeg 20)))]) (WR := []) (va_runV (As := [.int v]) (rest := [.int r_4]) ⟨hx, hb, hml, hown, hts⟩ k_5 (cwV 1 hts gX8_markOf_X8_sizeOf rfl rfl rfl (by decide +kernel) ⟨Nat.le_of_ble_eq_true rfl, Nat.le_of_ble_eq_true rfl⟩) (wp_V hP hK hD hN [0, 1, 2] (by decide) rfl (ci := 7) rfl rfl) rfl rfl hl.1 rfl (lv_room (Nat.le_of_ble_eq_true rfl)) dX8_markOf_34 ⟨Nat.le_of_ble_eq_true rfl, Nat.le_of_ble_eq_true rfl⟩) hP hD hS hA [0, 1, 2] [] rfl rfl (by decide) (by decide) (fun r_5 u_5 H locs hw_5 hP hD hS => ?_)
  clear k_5
  have hP : va_P D kl [(h, .inr (7, [.ref sl, .int na, .ref zs, .ref ln, .ref ir, .ref tk, .int su, .int le, .ref tb, .int fu, .int ap, .int pp, .ref tr, .int 4, .ref fz, .int nm])), (sl, .inl (cI, 1653, .inl sf)), (tr, .inl (cI, 16, .inl (upd (upd (upd (upd trf (0 : Int32).toNatClampNeg 23) (1 : Int32).toNatClampNeg 20) (2 : Int32).toNatClampNeg 13) (3 : Int32).toNatClampNeg 10)))] H := hP
  have hD : va_D A [(h, .inr (7, [.ref sl, .int na, .ref zs, .ref ln, .ref ir, .ref tk, .int su, .int le, .ref tb, .int fu, .int ap, .int pp, .ref tr, .int 4, .ref fz, .int nm])), (sl, .inl (cI, 1653, .inl sf)), (tr, .inl (cI, 16, .inl (upd (upd (upd (upd trf (0 : Int32).toNatClampNeg 23) (1 : Int32).toNatClampNeg 20) (2 : Int32).toNatClampNeg 13) (3 : Int32).toNatClampNeg 10)))] := hD
  clear hw_5
  refine lv_isub hx hb dX8_markOf_37 ?_
  refine lv_topi (fun x_6 ex_6 => ?_)
  clear ex_6
  exact wr_i (v := x_6) hx hb hr hlocks hS () (by trivial) (hP.sub [0, 1, 2] rfl) (hD.sub [0, 1, 2] (by decide) rfl) dX8_markOf_38
set_option maxHeartbeats 4000000 in
set_option maxRecDepth 100000 in
theorem t_X8_begins_14_0 (l : Launch) (D : va_G) (cI cB cQ : ClassId) (sz : Nat) (h : Nat) (sl : Nat) (zs : Nat) (ln : Nat) (ir : Nat) (tk : Nat) (tb : Nat) (tr : Nat) (fz : Nat) (na : Int32) (su : Int32) (le : Int32) (fu : Int32) (ap : Int32) (pp : Int32) (nm : Int32) (trf : Nat → Int32) (h_na : 0 ≤ na.toInt ∧ na.toInt ≤ 24) (h_le : 0 ≤ le.toInt ∧ le.toInt ≤ 120) (h_ap : 0 ≤ ap.toInt ∧ ap.toInt ≤ 120) (h_pp : 0 ≤ pp.toInt ∧ pp.toInt ≤ 120) : mv l yX8_begins wsX8_begins ({ frames := 0, cells := 0, slots := 0, locals := 0 }) D cI cB cQ [.ref h, .int 14] sz [(h, .inr (7, [.ref sl, .int na, .ref zs, .ref ln, .ref ir, .ref tk, .int su, .int le, .ref tb, .int fu, .int ap, .int pp, .ref tr, .int 0, .ref fz, .int nm])), (tr, .inl (cI, 16, .inl trf))] (fun (_u : Unit) => True) (fun _ => [(h, .inr (7, [.ref sl, .int na, .ref zs, .ref ln, .ref ir, .ref tk, .int su, .int le, .ref tb, .int fu, .int ap, .int pp, .ref tr, .int 1, .ref fz, .int nm])), (tr, .inl (cI, 16, .inl (upd trf (0 : Int32).toNatClampNeg 14)))]) 0 0 := by
  refine wm_v (cc := cX8_begins) (maxL := 2) (ret := none) (by decide) rfl (Nat.le_of_ble_eq_true rfl) ?_
  intro p e s m below meth c A ls hx hb hr hml hown hts hlocks hin hP hK hD hN hA hl hS
  have hown : s.vm.findClass RX8 = some m.cls := hown
  have hl : lv_has ls 2 [(0, .ref h), (1, .int 14)] := hl
  change W p l e ({ frames := 0, cells := 0, slots := 0, locals := 0 }) s m ([.ref h, .int 14] : List Value).toArray below meth c s.heap [] 0 0 (MQ below (va_Qv (fun (_u : Unit) => True) (fun u t => wb D A ((fun _ => [(h, .inr (7, [.ref sl, .int na, .ref zs, .ref ln, .ref ir, .ref tk, .int su, .int le, .ref tb, .int fu, .int ap, .int pp, .ref tr, .int 1, .ref fz, .int nm])), (tr, .inl (cI, 16, .inl (upd trf (0 : Int32).toNatClampNeg 14)))]) u) t) A) ([.ref h, .int 14] : List Value).toArray s 0 0 A) (F0 m 0 ls [])
  refine lv_aload_n hx hb dX8_begins_0 rfl (lv_at hl 0 rfl) ?_
  refine va_get (D := D) (ci := 7) (v := .int 0) (C := RX8) (T := TX8) (N := 16) hx hb hts (fun _ h => List.mem_cons_of_mem _ (List.mem_append_right _ h)) hown hK hP 0 rfl rfl 13 (by decide) (hts (.fieldLink RX8 208 "WinterWalkModel" "traced" "I") (List.mem_of_getElem? (i := 1) rfl)) (fun _ h9 => h9) rfl dX8_begins_1 ?_
  refine lv_bipush (v := 16) hx hb dX8_begins_4 (by decide) ?_
  refine lv_icmp_ge (tgt := 29) hx hb dX8_begins_6 (by decide) (fun c9 => absurd c9 (by decide)) (fun _ => ?_)
  refine lv_aload_n hx hb dX8_begins_9 rfl (lv_at hl 0 rfl) ?_
  refine va_get (D := D) (ci := 7) (v := .ref tr) (C := RX8) (T := TX8) (N := 16) hx hb hts (fun _ h => List.mem_cons_of_mem _ (List.mem_append_right _ h)) hown hK hP 0 rfl rfl 12 (by decide) (hts (.fieldLink RX8 29 "WinterWalkModel" "trace" "[I") (List.mem_of_getElem? (i := 2) rfl)) (fun _ h9 => h9) rfl dX8_begins_10 ?_
  refine lv_aload_n hx hb dX8_begins_13 rfl (lv_at hl 0 rfl) ?_
  refine va_get (D := D) (ci := 7) (v := .int 0) (C := RX8) (T := TX8) (N := 16) hx hb hts (fun _ h => List.mem_cons_of_mem _ (List.mem_append_right _ h)) hown hK hP 0 rfl rfl 13 (by decide) (hts (.fieldLink RX8 208 "WinterWalkModel" "traced" "I") (List.mem_of_getElem? (i := 1) rfl)) (fun _ h9 => h9) rfl dX8_begins_14 ?_
  refine lv_iload_n hx hb dX8_begins_17 rfl (lv_at hl 1 rfl) ?_
  refine va_iast hx hb hK hP hD hS 1 0 rfl rfl (zi_in (by decide) (by decide)) dX8_begins_18 (fun H locs hP hD hS => ?_)
  have hP : va_P D kl [(h, .inr (7, [.ref sl, .int na, .ref zs, .ref ln, .ref ir, .ref tk, .int su, .int le, .ref tb, .int fu, .int ap, .int pp, .ref tr, .int 0, .ref fz, .int nm])), (tr, .inl (cI, 16, .inl (upd trf (0 : Int32).toNatClampNeg 14)))] H := hP
  have hD : va_D A [(h, .inr (7, [.ref sl, .int na, .ref zs, .ref ln, .ref ir, .ref tk, .int su, .int le, .ref tb, .int fu, .int ap, .int pp, .ref tr, .int 0, .ref fz, .int nm])), (tr, .inl (cI, 16, .inl (upd trf (0 : Int32).toNatClampNeg 14)))] := hD
  refine lv_aload_n hx hb dX8_begins_19 rfl (lv_at hl 0 rfl) ?_
  refine lv_dup hx hb dX8_begins_20 rfl ?_
  refine va_get (D := D) (ci := 7) (v := .int 0) (C := RX8) (T := TX8) (N := 16) hx hb hts (fun _ h => List.mem_cons_of_mem _ (List.mem_append_right _ h)) hown hK hP 0 rfl rfl 13 (by decide) (hts (.fieldLink RX8 208 "WinterWalkModel" "traced" "I") (List.mem_of_getElem? (i := 1) rfl)) (fun _ h9 => h9) rfl dX8_begins_21 ?_
  refine lv_iconst (v := 1) hx hb dX8_begins_24 (by decide) ?_
  refine lv_iadd hx hb dX8_begins_25 ?_
  refine lv_topi (fun x_1 ex_1 => ?_)
  obtain rfl : x_1 = 1 := ex_1.trans (by decide)
  refine va_put (D := D) (ci := 7) (v := .int 1) (ty := .int) (C := RX8) (T := TX8) (N := 16) hx hb hts (fun _ h => List.mem_cons_of_mem _ (List.mem_append_right _ h)) tyX8 tyX8_ok nmX8 hown hK hP hD hS 0 rfl rfl 13 (by decide) (hts (.fieldLink RX8 208 "WinterWalkModel" "traced" "I") (List.mem_of_getElem? (i := 1) rfl)) (fun _ h9 => h9) rfl (by decide +kernel) rfl rfl (Nat.le_of_ble_eq_true rfl) dX8_begins_26 (fun H locs hP hD hS => ?_)
  have hP : va_P D kl [(h, .inr (7, [.ref sl, .int na, .ref zs, .ref ln, .ref ir, .ref tk, .int su, .int le, .ref tb, .int fu, .int ap, .int pp, .ref tr, .int 1, .ref fz, .int nm])), (tr, .inl (cI, 16, .inl (upd trf (0 : Int32).toNatClampNeg 14)))] H := hP
  have hD : va_D A [(h, .inr (7, [.ref sl, .int na, .ref zs, .ref ln, .ref ir, .ref tk, .int su, .int le, .ref tb, .int fu, .int ap, .int pp, .ref tr, .int 1, .ref fz, .int nm])), (tr, .inl (cI, 16, .inl (upd trf (0 : Int32).toNatClampNeg 14)))] := hD
  exact wr_v hx hb hr hlocks hS () (by trivial) (hP.sub [0, 1] rfl) (hD.sub [0, 1] (by decide) rfl) dX8_begins_29
set_option maxHeartbeats 4000000 in
set_option maxRecDepth 100000 in
theorem t_X8_begins_13_1 (l : Launch) (D : va_G) (cI cB cQ : ClassId) (sz : Nat) (h : Nat) (sl : Nat) (zs : Nat) (ln : Nat) (ir : Nat) (tk : Nat) (tb : Nat) (tr : Nat) (fz : Nat) (na : Int32) (su : Int32) (le : Int32) (fu : Int32) (ap : Int32) (pp : Int32) (nm : Int32) (trf : Nat → Int32) (h_na : 0 ≤ na.toInt ∧ na.toInt ≤ 24) (h_le : 0 ≤ le.toInt ∧ le.toInt ≤ 120) (h_ap : 0 ≤ ap.toInt ∧ ap.toInt ≤ 120) (h_pp : 0 ≤ pp.toInt ∧ pp.toInt ≤ 120) : mv l yX8_begins wsX8_begins ({ frames := 0, cells := 0, slots := 0, locals := 0 }) D cI cB cQ [.ref h, .int 13] sz [(h, .inr (7, [.ref sl, .int na, .ref zs, .ref ln, .ref ir, .ref tk, .int su, .int le, .ref tb, .int fu, .int ap, .int pp, .ref tr, .int 1, .ref fz, .int nm])), (tr, .inl (cI, 16, .inl trf))] (fun (_u : Unit) => True) (fun _ => [(h, .inr (7, [.ref sl, .int na, .ref zs, .ref ln, .ref ir, .ref tk, .int su, .int le, .ref tb, .int fu, .int ap, .int pp, .ref tr, .int 2, .ref fz, .int nm])), (tr, .inl (cI, 16, .inl (upd trf (1 : Int32).toNatClampNeg 13)))]) 0 0 := by
  refine wm_v (cc := cX8_begins) (maxL := 2) (ret := none) (by decide) rfl (Nat.le_of_ble_eq_true rfl) ?_
  intro p e s m below meth c A ls hx hb hr hml hown hts hlocks hin hP hK hD hN hA hl hS
  have hown : s.vm.findClass RX8 = some m.cls := hown
  have hl : lv_has ls 2 [(0, .ref h), (1, .int 13)] := hl
  change W p l e ({ frames := 0, cells := 0, slots := 0, locals := 0 }) s m ([.ref h, .int 13] : List Value).toArray below meth c s.heap [] 0 0 (MQ below (va_Qv (fun (_u : Unit) => True) (fun u t => wb D A ((fun _ => [(h, .inr (7, [.ref sl, .int na, .ref zs, .ref ln, .ref ir, .ref tk, .int su, .int le, .ref tb, .int fu, .int ap, .int pp, .ref tr, .int 2, .ref fz, .int nm])), (tr, .inl (cI, 16, .inl (upd trf (1 : Int32).toNatClampNeg 13)))]) u) t) A) ([.ref h, .int 13] : List Value).toArray s 0 0 A) (F0 m 0 ls [])
  refine lv_aload_n hx hb dX8_begins_0 rfl (lv_at hl 0 rfl) ?_
  refine va_get (D := D) (ci := 7) (v := .int 1) (C := RX8) (T := TX8) (N := 16) hx hb hts (fun _ h => List.mem_cons_of_mem _ (List.mem_append_right _ h)) hown hK hP 0 rfl rfl 13 (by decide) (hts (.fieldLink RX8 208 "WinterWalkModel" "traced" "I") (List.mem_of_getElem? (i := 1) rfl)) (fun _ h9 => h9) rfl dX8_begins_1 ?_
  refine lv_bipush (v := 16) hx hb dX8_begins_4 (by decide) ?_
  refine lv_icmp_ge (tgt := 29) hx hb dX8_begins_6 (by decide) (fun c9 => absurd c9 (by decide)) (fun _ => ?_)
  refine lv_aload_n hx hb dX8_begins_9 rfl (lv_at hl 0 rfl) ?_
  refine va_get (D := D) (ci := 7) (v := .ref tr) (C := RX8) (T := TX8) (N := 16) hx hb hts (fun _ h => List.mem_cons_of_mem _ (List.mem_append_right _ h)) hown hK hP 0 rfl rfl 12 (by decide) (hts (.fieldLink RX8 29 "WinterWalkModel" "trace" "[I") (List.mem_of_getElem? (i := 2) rfl)) (fun _ h9 => h9) rfl dX8_begins_10 ?_
  refine lv_aload_n hx hb dX8_begins_13 rfl (lv_at hl 0 rfl) ?_
  refine va_get (D := D) (ci := 7) (v := .int 1) (C := RX8) (T := TX8) (N := 16) hx hb hts (fun _ h => List.mem_cons_of_mem _ (List.mem_append_right _ h)) hown hK hP 0 rfl rfl 13 (by decide) (hts (.fieldLink RX8 208 "WinterWalkModel" "traced" "I") (List.mem_of_getElem? (i := 1) rfl)) (fun _ h9 => h9) rfl dX8_begins_14 ?_
  refine lv_iload_n hx hb dX8_begins_17 rfl (lv_at hl 1 rfl) ?_
  refine va_iast hx hb hK hP hD hS 1 0 rfl rfl (zi_in (by decide) (by decide)) dX8_begins_18 (fun H locs hP hD hS => ?_)
  have hP : va_P D kl [(h, .inr (7, [.ref sl, .int na, .ref zs, .ref ln, .ref ir, .ref tk, .int su, .int le, .ref tb, .int fu, .int ap, .int pp, .ref tr, .int 1, .ref fz, .int nm])), (tr, .inl (cI, 16, .inl (upd trf (1 : Int32).toNatClampNeg 13)))] H := hP
  have hD : va_D A [(h, .inr (7, [.ref sl, .int na, .ref zs, .ref ln, .ref ir, .ref tk, .int su, .int le, .ref tb, .int fu, .int ap, .int pp, .ref tr, .int 1, .ref fz, .int nm])), (tr, .inl (cI, 16, .inl (upd trf (1 : Int32).toNatClampNeg 13)))] := hD
  refine lv_aload_n hx hb dX8_begins_19 rfl (lv_at hl 0 rfl) ?_
  refine lv_dup hx hb dX8_begins_20 rfl ?_
  refine va_get (D := D) (ci := 7) (v := .int 1) (C := RX8) (T := TX8) (N := 16) hx hb hts (fun _ h => List.mem_cons_of_mem _ (List.mem_append_right _ h)) hown hK hP 0 rfl rfl 13 (by decide) (hts (.fieldLink RX8 208 "WinterWalkModel" "traced" "I") (List.mem_of_getElem? (i := 1) rfl)) (fun _ h9 => h9) rfl dX8_begins_21 ?_
  refine lv_iconst (v := 1) hx hb dX8_begins_24 (by decide) ?_
  refine lv_iadd hx hb dX8_begins_25 ?_
  refine lv_topi (fun x_1 ex_1 => ?_)
  obtain rfl : x_1 = 2 := ex_1.trans (by decide)
  refine va_put (D := D) (ci := 7) (v := .int 2) (ty := .int) (C := RX8) (T := TX8) (N := 16) hx hb hts (fun _ h => List.mem_cons_of_mem _ (List.mem_append_right _ h)) tyX8 tyX8_ok nmX8 hown hK hP hD hS 0 rfl rfl 13 (by decide) (hts (.fieldLink RX8 208 "WinterWalkModel" "traced" "I") (List.mem_of_getElem? (i := 1) rfl)) (fun _ h9 => h9) rfl (by decide +kernel) rfl rfl (Nat.le_of_ble_eq_true rfl) dX8_begins_26 (fun H locs hP hD hS => ?_)
  have hP : va_P D kl [(h, .inr (7, [.ref sl, .int na, .ref zs, .ref ln, .ref ir, .ref tk, .int su, .int le, .ref tb, .int fu, .int ap, .int pp, .ref tr, .int 2, .ref fz, .int nm])), (tr, .inl (cI, 16, .inl (upd trf (1 : Int32).toNatClampNeg 13)))] H := hP
  have hD : va_D A [(h, .inr (7, [.ref sl, .int na, .ref zs, .ref ln, .ref ir, .ref tk, .int su, .int le, .ref tb, .int fu, .int ap, .int pp, .ref tr, .int 2, .ref fz, .int nm])), (tr, .inl (cI, 16, .inl (upd trf (1 : Int32).toNatClampNeg 13)))] := hD
  exact wr_v hx hb hr hlocks hS () (by trivial) (hP.sub [0, 1] rfl) (hD.sub [0, 1] (by decide) rfl) dX8_begins_29
set_option maxHeartbeats 4000000 in
set_option maxRecDepth 100000 in
theorem t_X8_size13_0_1 (l : Launch) (D : va_G) (cI cB cQ : ClassId) (sz : Nat) (h : Nat) (sl : Nat) (zs : Nat) (ln : Nat) (ir : Nat) (tk : Nat) (tb : Nat) (tr : Nat) (fz : Nat) (na : Int32) (su : Int32) (le : Int32) (fu : Int32) (ap : Int32) (pp : Int32) (nm : Int32) (v : Int32) (sf : Nat → Int32) (trf : Nat → Int32) (v0 : Int) (hsi : SI sf v0) (h_na : 0 ≤ na.toInt ∧ na.toInt ≤ 24) (h_le : 0 ≤ le.toInt ∧ le.toInt ≤ 120) (h_ap : 0 ≤ ap.toInt ∧ ap.toInt ≤ 120) (h_pp : 0 ≤ pp.toInt ∧ pp.toInt ≤ 120) (h_v : 0 ≤ v.toInt ∧ v.toInt ≤ 2) : mi l yX8_size13 wsX8_size13 ({ frames := 2, cells := 0, slots := 0, locals := 42 }) D cI cB cQ [.ref h, .int v] sz [(h, .inr (7, [.ref sl, .int na, .ref zs, .ref ln, .ref ir, .ref tk, .int su, .int le, .ref tb, .int fu, .int ap, .int pp, .ref tr, .int 1, .ref fz, .int nm])), (sl, .inl (cI, 1653, .inl sf)), (tr, .inl (cI, 16, .inl trf))] (fun (r : Int32) (_u : Unit) => True) (fun _ => [(h, .inr (7, [.ref sl, .int na, .ref zs, .ref ln, .ref ir, .ref tk, .int su, .int le, .ref tb, .int fu, .int ap, .int pp, .ref tr, .int 3, .ref fz, .int nm])), (sl, .inl (cI, 1653, .inl sf)), (tr, .inl (cI, 16, .inl (upd (upd trf (1 : Int32).toNatClampNeg 13) (2 : Int32).toNatClampNeg 10)))]) 0 0 := by
  refine wm_i (cc := cX8_size13) (maxL := 2) (ret := (some .int)) (by decide) rfl (Nat.le_of_ble_eq_true rfl) ?_
  intro p e s m below meth c A ls hx hb hr hml hown hts hlocks hin hP hK hD hN hA hl hS
  have hown : s.vm.findClass RX8 = some m.cls := hown
  have hl : lv_has ls 2 [(0, .ref h), (1, .int v)] := hl
  change W p l e ({ frames := 2, cells := 0, slots := 0, locals := 42 }) s m ([.ref h, .int v] : List Value).toArray below meth c s.heap [] 0 0 (MQ below (va_Qi (fun (r : Int32) (_u : Unit) => True) (fun u t => wb D A ((fun _ => [(h, .inr (7, [.ref sl, .int na, .ref zs, .ref ln, .ref ir, .ref tk, .int su, .int le, .ref tb, .int fu, .int ap, .int pp, .ref tr, .int 3, .ref fz, .int nm])), (sl, .inl (cI, 1653, .inl sf)), (tr, .inl (cI, 16, .inl (upd (upd trf (1 : Int32).toNatClampNeg 13) (2 : Int32).toNatClampNeg 10)))]) u) t) A) ([.ref h, .int v] : List Value).toArray s 0 0 A) (F0 m 0 ls [])
  refine lv_aload_n hx hb dX8_size13_0 rfl (lv_at hl 0 rfl) ?_
  refine lv_bipush (v := 13) hx hb dX8_size13_1 (by decide) ?_
  have k_1 := (t_X8_begins_13_1 l D cI cB cQ s.heap.size h sl zs ln ir tk tb tr fz na su le fu ap pp nm trf (by omega) (by omega) (by omega) (by omega))
  refine wc_v (WC := [(h, .inr (7, [.ref sl, .int na, .ref zs, .ref ln, .ref ir, .ref tk, .int su, .int le, .ref tb, .int fu, .int ap, .int pp, .ref tr, .int 1, .ref fz, .int nm])), (tr, .inl (cI, 16, .inl trf))]) (WR := [(sl, .inl (cI, 1653, .inl sf))]) (va_runV (As := [.int 13]) (rest := []) ⟨hx, hb, hml, hown, hts⟩ k_1 (cwV 1 hts gX8_size13_X8_begins rfl rfl rfl (by decide +kernel) ⟨Nat.le_of_ble_eq_true rfl, Nat.le_of_ble_eq_true rfl⟩) (wp_V hP hK hD hN [0, 2] (by decide) rfl (ci := 7) rfl rfl) rfl rfl hl.1 rfl (lv_room (Nat.le_of_ble_eq_true rfl)) dX8_size13_3 ⟨Nat.le_of_ble_eq_true rfl, Nat.le_of_ble_eq_true rfl⟩) hP hD hS hA [0, 2] [1] rfl rfl (by decide) (by decide) (fun u_1 H locs hw_1 hP hD hS => ?_)
  clear k_1
  have hP : va_P D kl [(sl, .inl (cI, 1653, .inl sf)), (h, .inr (7, [.ref sl, .int na, .ref zs, .ref ln, .ref ir, .ref tk, .int su, .int le, .ref tb, .int fu, .int ap, .int pp, .ref tr, .int 2, .ref fz, .int nm])), (tr, .inl (cI, 16, .inl (upd trf (1 : Int32).toNatClampNeg 13)))] H := hP
  have hD : va_D A [(sl, .inl (cI, 1653, .inl sf)), (h, .inr (7, [.ref sl, .int na, .ref zs, .ref ln, .ref ir, .ref tk, .int su, .int le, .ref tb, .int fu, .int ap, .int pp, .ref tr, .int 2, .ref fz, .int nm])), (tr, .inl (cI, 16, .inl (upd trf (1 : Int32).toNatClampNeg 13)))] := hD
  clear hw_1
  refine lv_aload_n hx hb dX8_size13_6 rfl (lv_at hl 0 rfl) ?_
  refine lv_iload_n hx hb dX8_size13_7 rfl (lv_at hl 1 rfl) ?_
  have k_2 := (t_X8_size10_0_2 l D cI cB cQ H.size h sl zs ln ir tk tb tr fz na su le fu ap pp nm v sf (upd trf (1 : Int32).toNatClampNeg 13) v0 hsi (by omega) (by omega) (by omega) (by omega) (by omega))
  refine wc_i (WC := [(h, .inr (7, [.ref sl, .int na, .ref zs, .ref ln, .ref ir, .ref tk, .int su, .int le, .ref tb, .int fu, .int ap, .int pp, .ref tr, .int 2, .ref fz, .int nm])), (sl, .inl (cI, 1653, .inl sf)), (tr, .inl (cI, 16, .inl (upd trf (1 : Int32).toNatClampNeg 13)))]) (WR := []) (va_runV (As := [.int v]) (rest := []) ⟨hx, hb, hml, hown, hts⟩ k_2 (cwV 1 hts gX8_size13_X8_size10 rfl rfl rfl (by decide +kernel) ⟨Nat.le_of_ble_eq_true rfl, Nat.le_of_ble_eq_true rfl⟩) (wp_V hP hK hD hN [1, 0, 2] (by decide) rfl (ci := 7) rfl rfl) rfl rfl hl.1 rfl (lv_room (Nat.le_of_ble_eq_true rfl)) dX8_size13_8 ⟨Nat.le_of_ble_eq_true rfl, Nat.le_of_ble_eq_true rfl⟩) hP hD hS hA [1, 0, 2] [] rfl rfl (by decide) (by decide) (fun r_2 u_2 H locs hw_2 hP hD hS => ?_)
  clear k_2
  have hP : va_P D kl [(h, .inr (7, [.ref sl, .int na, .ref zs, .ref ln, .ref ir, .ref tk, .int su, .int le, .ref tb, .int fu, .int ap, .int pp, .ref tr, .int 3, .ref fz, .int nm])), (sl, .inl (cI, 1653, .inl sf)), (tr, .inl (cI, 16, .inl (upd (upd trf (1 : Int32).toNatClampNeg 13) (2 : Int32).toNatClampNeg 10)))] H := hP
  have hD : va_D A [(h, .inr (7, [.ref sl, .int na, .ref zs, .ref ln, .ref ir, .ref tk, .int su, .int le, .ref tb, .int fu, .int ap, .int pp, .ref tr, .int 3, .ref fz, .int nm])), (sl, .inl (cI, 1653, .inl sf)), (tr, .inl (cI, 16, .inl (upd (upd trf (1 : Int32).toNatClampNeg 13) (2 : Int32).toNatClampNeg 10)))] := hD
  clear hw_2
  refine lv_bipush (v := 100) hx hb dX8_size13_11 (by decide) ?_
  refine lv_isub hx hb dX8_size13_13 ?_
  refine lv_topi (fun x_3 ex_3 => ?_)
  clear ex_3
  exact wr_i (v := x_3) hx hb hr hlocks hS () (by trivial) (hP.sub [0, 1, 2] rfl) (hD.sub [0, 1, 2] (by decide) rfl) dX8_size13_14
set_option maxHeartbeats 4000000 in
set_option maxRecDepth 100000 in
theorem t_X8_sizeOf_5_0 (l : Launch) (D : va_G) (cI cB cQ : ClassId) (sz : Nat) (h : Nat) (sl : Nat) (zs : Nat) (ln : Nat) (ir : Nat) (tk : Nat) (tb : Nat) (tr : Nat) (fz : Nat) (na : Int32) (su : Int32) (le : Int32) (fu : Int32) (ap : Int32) (pp : Int32) (nm : Int32) (v : Int32) (sf : Nat → Int32) (trf : Nat → Int32) (v0 : Int) (hsi : SI sf v0) (h_na : 0 ≤ na.toInt ∧ na.toInt ≤ 24) (h_le : 0 ≤ le.toInt ∧ le.toInt ≤ 120) (h_ap : 0 ≤ ap.toInt ∧ ap.toInt ≤ 120) (h_pp : 0 ≤ pp.toInt ∧ pp.toInt ≤ 120) (h_v : 0 ≤ v.toInt ∧ v.toInt ≤ 2) (h_kd : sf (20 + v.toNatClampNeg) = 5) : mi l yX8_sizeOf wsX8_sizeOf ({ frames := 3, cells := 0, slots := 0, locals := 63 }) D cI cB cQ [.ref h, .int v] sz [(h, .inr (7, [.ref sl, .int na, .ref zs, .ref ln, .ref ir, .ref tk, .int su, .int le, .ref tb, .int fu, .int ap, .int pp, .ref tr, .int 0, .ref fz, .int nm])), (sl, .inl (cI, 1653, .inl sf)), (tr, .inl (cI, 16, .inl trf))] (fun (r : Int32) (_u : Unit) => True) (fun _ => [(h, .inr (7, [.ref sl, .int na, .ref zs, .ref ln, .ref ir, .ref tk, .int su, .int le, .ref tb, .int fu, .int ap, .int pp, .ref tr, .int 3, .ref fz, .int nm])), (sl, .inl (cI, 1653, .inl sf)), (tr, .inl (cI, 16, .inl (upd (upd (upd trf (0 : Int32).toNatClampNeg 14) (1 : Int32).toNatClampNeg 13) (2 : Int32).toNatClampNeg 10)))]) 0 0 := by
  refine wm_i (cc := cX8_sizeOf) (maxL := 3) (ret := (some .int)) (by decide) rfl (Nat.le_of_ble_eq_true rfl) ?_
  intro p e s m below meth c A ls hx hb hr hml hown hts hlocks hin hP hK hD hN hA hl hS
  have hown : s.vm.findClass RX8 = some m.cls := hown
  have hl : lv_has ls 3 [(0, .ref h), (1, .int v)] := hl
  change W p l e ({ frames := 3, cells := 0, slots := 0, locals := 63 }) s m ([.ref h, .int v] : List Value).toArray below meth c s.heap [] 0 0 (MQ below (va_Qi (fun (r : Int32) (_u : Unit) => True) (fun u t => wb D A ((fun _ => [(h, .inr (7, [.ref sl, .int na, .ref zs, .ref ln, .ref ir, .ref tk, .int su, .int le, .ref tb, .int fu, .int ap, .int pp, .ref tr, .int 3, .ref fz, .int nm])), (sl, .inl (cI, 1653, .inl sf)), (tr, .inl (cI, 16, .inl (upd (upd (upd trf (0 : Int32).toNatClampNeg 14) (1 : Int32).toNatClampNeg 13) (2 : Int32).toNatClampNeg 10)))]) u) t) A) ([.ref h, .int v] : List Value).toArray s 0 0 A) (F0 m 0 ls [])
  refine lv_aload_n hx hb dX8_sizeOf_0 rfl (lv_at hl 0 rfl) ?_
  refine va_get (D := D) (ci := 7) (v := .ref sl) (C := RX8) (T := TX8) (N := 16) hx hb hts (fun _ h => List.mem_cons_of_mem _ (List.mem_append_right _ h)) hown hK hP 0 rfl rfl 0 (by decide) (hts (.fieldLink RX8 7 "WinterWalkModel" "slot" "[I") (List.mem_of_getElem? (i := 1) rfl)) (fun _ h9 => h9) rfl dX8_sizeOf_1 ?_
  refine lv_bipush (v := 20) hx hb dX8_sizeOf_4 (by decide) ?_
  refine lv_iload_n hx hb dX8_sizeOf_6 rfl (lv_at hl 1 rfl) ?_
  refine lv_iadd hx hb dX8_sizeOf_7 ?_
  refine lv_topi (fun x_1 ex_1 => ?_)
  have e_1 : x_1.toInt = 20 + v.toInt := by rw [ex_1]; exact zi_add (by decide) (rfl) (by omega) (by omega)
  clear ex_1
  refine va_iald hx hb hK hP 1 0 rfl rfl (zi_in (by omega) (by omega)) dX8_sizeOf_8 ?_
  refine lv_topi (fun x_2 ex_2 => ?_)
  obtain rfl : x_2 = 5 := ex_2.trans ((congrArg sf (show (x_1 : Int32).toNatClampNeg = 20 + v.toNatClampNeg from by have h9 := zi_cn (x := x_1) (by omega); have h8 := zi_cn (x := v) (by omega); omega)).trans h_kd)
  refine lv_istore_n (lv' := [(2, .int 5), (0, .ref h), (1, .int v)]) hx hb dX8_sizeOf_9 rfl hl (by decide) rfl (fun ls hl => ?_)
  refine lv_iload_n hx hb dX8_sizeOf_10 rfl (lv_at hl 0 rfl) ?_
  refine lv_iconst (v := 1) hx hb dX8_sizeOf_11 (by decide) ?_
  refine lv_icmp_eq (tgt := 20) hx hb dX8_sizeOf_12 (by decide) (fun c9 => absurd c9 (by decide)) (fun _ => ?_)
  refine lv_iload_n hx hb dX8_sizeOf_15 rfl (lv_at hl 0 rfl) ?_
  refine lv_iconst (v := 3) hx hb dX8_sizeOf_16 (by decide) ?_
  refine lv_icmp_ne (tgt := 26) hx hb dX8_sizeOf_17 (by decide) (fun _ => ?_) (fun c9 => absurd c9 (by decide))
  refine lv_iload_n hx hb dX8_sizeOf_26 rfl (lv_at hl 0 rfl) ?_
  refine lv_iconst (v := 4) hx hb dX8_sizeOf_27 (by decide) ?_
  refine lv_icmp_ne (tgt := 37) hx hb dX8_sizeOf_28 (by decide) (fun _ => ?_) (fun c9 => absurd c9 (by decide))
  refine lv_aload_n hx hb dX8_sizeOf_37 rfl (lv_at hl 1 rfl) ?_
  refine lv_iload_n hx hb dX8_sizeOf_38 rfl (lv_at hl 0 rfl) ?_
  refine lv_iconst (v := 2) hx hb dX8_sizeOf_39 (by decide) ?_
  refine lv_icmp_ne (tgt := 48) hx hb dX8_sizeOf_40 (by decide) (fun _ => ?_) (fun c9 => absurd c9 (by decide))
  refine lv_bipush (v := 14) hx hb dX8_sizeOf_48 (by decide) ?_
  have k_3 := (t_X8_begins_14_0 l D cI cB cQ s.heap.size h sl zs ln ir tk tb tr fz na su le fu ap pp nm trf (by omega) (by omega) (by omega) (by omega))
  refine wc_v (WC := [(h, .inr (7, [.ref sl, .int na, .ref zs, .ref ln, .ref ir, .ref tk, .int su, .int le, .ref tb, .int fu, .int ap, .int pp, .ref tr, .int 0, .ref fz, .int nm])), (tr, .inl (cI, 16, .inl trf))]) (WR := [(sl, .inl (cI, 1653, .inl sf))]) (va_runV (As := [.int 14]) (rest := []) ⟨hx, hb, hml, hown, hts⟩ k_3 (cwV 1 hts gX8_sizeOf_X8_begins rfl rfl rfl (by decide +kernel) ⟨Nat.le_of_ble_eq_true rfl, Nat.le_of_ble_eq_true rfl⟩) (wp_V hP hK hD hN [0, 2] (by decide) rfl (ci := 7) rfl rfl) rfl rfl hl.1 rfl (lv_room (Nat.le_of_ble_eq_true rfl)) dX8_sizeOf_50 ⟨Nat.le_of_ble_eq_true rfl, Nat.le_of_ble_eq_true rfl⟩) hP hD hS hA [0, 2] [1] rfl rfl (by decide) (by decide) (fun u_3 H locs hw_3 hP hD hS => ?_)
  clear k_3
  have hP : va_P D kl [(sl, .inl (cI, 1653, .inl sf)), (h, .inr (7, [.ref sl, .int na, .ref zs, .ref ln, .ref ir, .ref tk, .int su, .int le, .ref tb, .int fu, .int ap, .int pp, .ref tr, .int 1, .ref fz, .int nm])), (tr, .inl (cI, 16, .inl (upd trf (0 : Int32).toNatClampNeg 14)))] H := hP
  have hD : va_D A [(sl, .inl (cI, 1653, .inl sf)), (h, .inr (7, [.ref sl, .int na, .ref zs, .ref ln, .ref ir, .ref tk, .int su, .int le, .ref tb, .int fu, .int ap, .int pp, .ref tr, .int 1, .ref fz, .int nm])), (tr, .inl (cI, 16, .inl (upd trf (0 : Int32).toNatClampNeg 14)))] := hD
  clear hw_3
  refine lv_iload_n hx hb dX8_sizeOf_53 rfl (lv_at hl 0 rfl) ?_
  refine lv_iconst (v := 2) hx hb dX8_sizeOf_54 (by decide) ?_
  refine lv_icmp_ne (tgt := 67) hx hb dX8_sizeOf_55 (by decide) (fun _ => ?_) (fun c9 => absurd c9 (by decide))
  refine lv_iconst (v := 2) hx hb dX8_sizeOf_67 (by decide) ?_
  refine lv_aload_n hx hb dX8_sizeOf_68 rfl (lv_at hl 1 rfl) ?_
  refine lv_iload_n hx hb dX8_sizeOf_69 rfl (lv_at hl 2 rfl) ?_
  have k_4 := (t_X8_size13_0_1 l D cI cB cQ H.size h sl zs ln ir tk tb tr fz na su le fu ap pp nm v sf (upd trf (0 : Int32).toNatClampNeg 14) v0 hsi (by omega) (by omega) (by omega) (by omega) (by omega))
  refine wc_i (WC := [(h, .inr (7, [.ref sl, .int na, .ref zs, .ref ln, .ref ir, .ref tk, .int su, .int le, .ref tb, .int fu, .int ap, .int pp, .ref tr, .int 1, .ref fz, .int nm])), (sl, .inl (cI, 1653, .inl sf)), (tr, .inl (cI, 16, .inl (upd trf (0 : Int32).toNatClampNeg 14)))]) (WR := []) (va_runV (As := [.int v]) (rest := [.int 2]) ⟨hx, hb, hml, hown, hts⟩ k_4 (cwV 1 hts gX8_sizeOf_X8_size13 rfl rfl rfl (by decide +kernel) ⟨Nat.le_of_ble_eq_true rfl, Nat.le_of_ble_eq_true rfl⟩) (wp_V hP hK hD hN [1, 0, 2] (by decide) rfl (ci := 7) rfl rfl) rfl rfl hl.1 rfl (lv_room (Nat.le_of_ble_eq_true rfl)) dX8_sizeOf_70 ⟨Nat.le_of_ble_eq_true rfl, Nat.le_of_ble_eq_true rfl⟩) hP hD hS hA [1, 0, 2] [] rfl rfl (by decide) (by decide) (fun r_4 u_4 H locs hw_4 hP hD hS => ?_)
  clear k_4
  have hP : va_P D kl [(h, .inr (7, [.ref sl, .int na, .ref zs, .ref ln, .ref ir, .ref tk, .int su, .int le, .ref tb, .int fu, .int ap, .int pp, .ref tr, .int 3, .ref fz, .int nm])), (sl, .inl (cI, 1653, .inl sf)), (tr, .inl (cI, 16, .inl (upd (upd (upd trf (0 : Int32).toNatClampNeg 14) (1 : Int32).toNatClampNeg 13) (2 : Int32).toNatClampNeg 10)))] H := hP
  have hD : va_D A [(h, .inr (7, [.ref sl, .int na, .ref zs, .ref ln, .ref ir, .ref tk, .int su, .int le, .ref tb, .int fu, .int ap, .int pp, .ref tr, .int 3, .ref fz, .int nm])), (sl, .inl (cI, 1653, .inl sf)), (tr, .inl (cI, 16, .inl (upd (upd (upd trf (0 : Int32).toNatClampNeg 14) (1 : Int32).toNatClampNeg 13) (2 : Int32).toNatClampNeg 10)))] := hD
  clear hw_4
  refine lv_imul hx hb dX8_sizeOf_73 ?_
  refine lv_topi (fun x_5 ex_5 => ?_)
  clear ex_5
  exact wr_i (v := x_5) hx hb hr hlocks hS () (by trivial) (hP.sub [0, 1, 2] rfl) (hD.sub [0, 1, 2] (by decide) rfl) dX8_sizeOf_74
set_option maxHeartbeats 4000000 in
set_option maxRecDepth 100000 in
theorem t_X8_begins_14_2 (l : Launch) (D : va_G) (cI cB cQ : ClassId) (sz : Nat) (h : Nat) (sl : Nat) (zs : Nat) (ln : Nat) (ir : Nat) (tk : Nat) (tb : Nat) (tr : Nat) (fz : Nat) (na : Int32) (su : Int32) (le : Int32) (fu : Int32) (ap : Int32) (pp : Int32) (nm : Int32) (trf : Nat → Int32) (h_na : 0 ≤ na.toInt ∧ na.toInt ≤ 24) (h_le : 0 ≤ le.toInt ∧ le.toInt ≤ 120) (h_ap : 0 ≤ ap.toInt ∧ ap.toInt ≤ 120) (h_pp : 0 ≤ pp.toInt ∧ pp.toInt ≤ 120) : mv l yX8_begins wsX8_begins ({ frames := 0, cells := 0, slots := 0, locals := 0 }) D cI cB cQ [.ref h, .int 14] sz [(h, .inr (7, [.ref sl, .int na, .ref zs, .ref ln, .ref ir, .ref tk, .int su, .int le, .ref tb, .int fu, .int ap, .int pp, .ref tr, .int 2, .ref fz, .int nm])), (tr, .inl (cI, 16, .inl trf))] (fun (_u : Unit) => True) (fun _ => [(h, .inr (7, [.ref sl, .int na, .ref zs, .ref ln, .ref ir, .ref tk, .int su, .int le, .ref tb, .int fu, .int ap, .int pp, .ref tr, .int 3, .ref fz, .int nm])), (tr, .inl (cI, 16, .inl (upd trf (2 : Int32).toNatClampNeg 14)))]) 0 0 := by
  refine wm_v (cc := cX8_begins) (maxL := 2) (ret := none) (by decide) rfl (Nat.le_of_ble_eq_true rfl) ?_
  intro p e s m below meth c A ls hx hb hr hml hown hts hlocks hin hP hK hD hN hA hl hS
  have hown : s.vm.findClass RX8 = some m.cls := hown
  have hl : lv_has ls 2 [(0, .ref h), (1, .int 14)] := hl
  change W p l e ({ frames := 0, cells := 0, slots := 0, locals := 0 }) s m ([.ref h, .int 14] : List Value).toArray below meth c s.heap [] 0 0 (MQ below (va_Qv (fun (_u : Unit) => True) (fun u t => wb D A ((fun _ => [(h, .inr (7, [.ref sl, .int na, .ref zs, .ref ln, .ref ir, .ref tk, .int su, .int le, .ref tb, .int fu, .int ap, .int pp, .ref tr, .int 3, .ref fz, .int nm])), (tr, .inl (cI, 16, .inl (upd trf (2 : Int32).toNatClampNeg 14)))]) u) t) A) ([.ref h, .int 14] : List Value).toArray s 0 0 A) (F0 m 0 ls [])
  refine lv_aload_n hx hb dX8_begins_0 rfl (lv_at hl 0 rfl) ?_
  refine va_get (D := D) (ci := 7) (v := .int 2) (C := RX8) (T := TX8) (N := 16) hx hb hts (fun _ h => List.mem_cons_of_mem _ (List.mem_append_right _ h)) hown hK hP 0 rfl rfl 13 (by decide) (hts (.fieldLink RX8 208 "WinterWalkModel" "traced" "I") (List.mem_of_getElem? (i := 1) rfl)) (fun _ h9 => h9) rfl dX8_begins_1 ?_
  refine lv_bipush (v := 16) hx hb dX8_begins_4 (by decide) ?_
  refine lv_icmp_ge (tgt := 29) hx hb dX8_begins_6 (by decide) (fun c9 => absurd c9 (by decide)) (fun _ => ?_)
  refine lv_aload_n hx hb dX8_begins_9 rfl (lv_at hl 0 rfl) ?_
  refine va_get (D := D) (ci := 7) (v := .ref tr) (C := RX8) (T := TX8) (N := 16) hx hb hts (fun _ h => List.mem_cons_of_mem _ (List.mem_append_right _ h)) hown hK hP 0 rfl rfl 12 (by decide) (hts (.fieldLink RX8 29 "WinterWalkModel" "trace" "[I") (List.mem_of_getElem? (i := 2) rfl)) (fun _ h9 => h9) rfl dX8_begins_10 ?_
  refine lv_aload_n hx hb dX8_begins_13 rfl (lv_at hl 0 rfl) ?_
  refine va_get (D := D) (ci := 7) (v := .int 2) (C := RX8) (T := TX8) (N := 16) hx hb hts (fun _ h => List.mem_cons_of_mem _ (List.mem_append_right _ h)) hown hK hP 0 rfl rfl 13 (by decide) (hts (.fieldLink RX8 208 "WinterWalkModel" "traced" "I") (List.mem_of_getElem? (i := 1) rfl)) (fun _ h9 => h9) rfl dX8_begins_14 ?_
  refine lv_iload_n hx hb dX8_begins_17 rfl (lv_at hl 1 rfl) ?_
  refine va_iast hx hb hK hP hD hS 1 0 rfl rfl (zi_in (by decide) (by decide)) dX8_begins_18 (fun H locs hP hD hS => ?_)
  have hP : va_P D kl [(h, .inr (7, [.ref sl, .int na, .ref zs, .ref ln, .ref ir, .ref tk, .int su, .int le, .ref tb, .int fu, .int ap, .int pp, .ref tr, .int 2, .ref fz, .int nm])), (tr, .inl (cI, 16, .inl (upd trf (2 : Int32).toNatClampNeg 14)))] H := hP
  have hD : va_D A [(h, .inr (7, [.ref sl, .int na, .ref zs, .ref ln, .ref ir, .ref tk, .int su, .int le, .ref tb, .int fu, .int ap, .int pp, .ref tr, .int 2, .ref fz, .int nm])), (tr, .inl (cI, 16, .inl (upd trf (2 : Int32).toNatClampNeg 14)))] := hD
  refine lv_aload_n hx hb dX8_begins_19 rfl (lv_at hl 0 rfl) ?_
  refine lv_dup hx hb dX8_begins_20 rfl ?_
  refine va_get (D := D) (ci := 7) (v := .int 2) (C := RX8) (T := TX8) (N := 16) hx hb hts (fun _ h => List.mem_cons_of_mem _ (List.mem_append_right _ h)) hown hK hP 0 rfl rfl 13 (by decide) (hts (.fieldLink RX8 208 "WinterWalkModel" "traced" "I") (List.mem_of_getElem? (i := 1) rfl)) (fun _ h9 => h9) rfl dX8_begins_21 ?_
  refine lv_iconst (v := 1) hx hb dX8_begins_24 (by decide) ?_
  refine lv_iadd hx hb dX8_begins_25 ?_
  refine lv_topi (fun x_1 ex_1 => ?_)
  obtain rfl : x_1 = 3 := ex_1.trans (by decide)
  refine va_put (D := D) (ci := 7) (v := .int 3) (ty := .int) (C := RX8) (T := TX8) (N := 16) hx hb hts (fun _ h => List.mem_cons_of_mem _ (List.mem_append_right _ h)) tyX8 tyX8_ok nmX8 hown hK hP hD hS 0 rfl rfl 13 (by decide) (hts (.fieldLink RX8 208 "WinterWalkModel" "traced" "I") (List.mem_of_getElem? (i := 1) rfl)) (fun _ h9 => h9) rfl (by decide +kernel) rfl rfl (Nat.le_of_ble_eq_true rfl) dX8_begins_26 (fun H locs hP hD hS => ?_)
  have hP : va_P D kl [(h, .inr (7, [.ref sl, .int na, .ref zs, .ref ln, .ref ir, .ref tk, .int su, .int le, .ref tb, .int fu, .int ap, .int pp, .ref tr, .int 3, .ref fz, .int nm])), (tr, .inl (cI, 16, .inl (upd trf (2 : Int32).toNatClampNeg 14)))] H := hP
  have hD : va_D A [(h, .inr (7, [.ref sl, .int na, .ref zs, .ref ln, .ref ir, .ref tk, .int su, .int le, .ref tb, .int fu, .int ap, .int pp, .ref tr, .int 3, .ref fz, .int nm])), (tr, .inl (cI, 16, .inl (upd trf (2 : Int32).toNatClampNeg 14)))] := hD
  exact wr_v hx hb hr hlocks hS () (by trivial) (hP.sub [0, 1] rfl) (hD.sub [0, 1] (by decide) rfl) dX8_begins_29
set_option maxHeartbeats 4000000 in
set_option maxRecDepth 100000 in
theorem t_X8_begins_13_3 (l : Launch) (D : va_G) (cI cB cQ : ClassId) (sz : Nat) (h : Nat) (sl : Nat) (zs : Nat) (ln : Nat) (ir : Nat) (tk : Nat) (tb : Nat) (tr : Nat) (fz : Nat) (na : Int32) (su : Int32) (le : Int32) (fu : Int32) (ap : Int32) (pp : Int32) (nm : Int32) (trf : Nat → Int32) (h_na : 0 ≤ na.toInt ∧ na.toInt ≤ 24) (h_le : 0 ≤ le.toInt ∧ le.toInt ≤ 120) (h_ap : 0 ≤ ap.toInt ∧ ap.toInt ≤ 120) (h_pp : 0 ≤ pp.toInt ∧ pp.toInt ≤ 120) : mv l yX8_begins wsX8_begins ({ frames := 0, cells := 0, slots := 0, locals := 0 }) D cI cB cQ [.ref h, .int 13] sz [(h, .inr (7, [.ref sl, .int na, .ref zs, .ref ln, .ref ir, .ref tk, .int su, .int le, .ref tb, .int fu, .int ap, .int pp, .ref tr, .int 3, .ref fz, .int nm])), (tr, .inl (cI, 16, .inl trf))] (fun (_u : Unit) => True) (fun _ => [(h, .inr (7, [.ref sl, .int na, .ref zs, .ref ln, .ref ir, .ref tk, .int su, .int le, .ref tb, .int fu, .int ap, .int pp, .ref tr, .int 4, .ref fz, .int nm])), (tr, .inl (cI, 16, .inl (upd trf (3 : Int32).toNatClampNeg 13)))]) 0 0 := by
  refine wm_v (cc := cX8_begins) (maxL := 2) (ret := none) (by decide) rfl (Nat.le_of_ble_eq_true rfl) ?_
  intro p e s m below meth c A ls hx hb hr hml hown hts hlocks hin hP hK hD hN hA hl hS
  have hown : s.vm.findClass RX8 = some m.cls := hown
  have hl : lv_has ls 2 [(0, .ref h), (1, .int 13)] := hl
  change W p l e ({ frames := 0, cells := 0, slots := 0, locals := 0 }) s m ([.ref h, .int 13] : List Value).toArray below meth c s.heap [] 0 0 (MQ below (va_Qv (fun (_u : Unit) => True) (fun u t => wb D A ((fun _ => [(h, .inr (7, [.ref sl, .int na, .ref zs, .ref ln, .ref ir, .ref tk, .int su, .int le, .ref tb, .int fu, .int ap, .int pp, .ref tr, .int 4, .ref fz, .int nm])), (tr, .inl (cI, 16, .inl (upd trf (3 : Int32).toNatClampNeg 13)))]) u) t) A) ([.ref h, .int 13] : List Value).toArray s 0 0 A) (F0 m 0 ls [])
  refine lv_aload_n hx hb dX8_begins_0 rfl (lv_at hl 0 rfl) ?_
  refine va_get (D := D) (ci := 7) (v := .int 3) (C := RX8) (T := TX8) (N := 16) hx hb hts (fun _ h => List.mem_cons_of_mem _ (List.mem_append_right _ h)) hown hK hP 0 rfl rfl 13 (by decide) (hts (.fieldLink RX8 208 "WinterWalkModel" "traced" "I") (List.mem_of_getElem? (i := 1) rfl)) (fun _ h9 => h9) rfl dX8_begins_1 ?_
  refine lv_bipush (v := 16) hx hb dX8_begins_4 (by decide) ?_
  refine lv_icmp_ge (tgt := 29) hx hb dX8_begins_6 (by decide) (fun c9 => absurd c9 (by decide)) (fun _ => ?_)
  refine lv_aload_n hx hb dX8_begins_9 rfl (lv_at hl 0 rfl) ?_
  refine va_get (D := D) (ci := 7) (v := .ref tr) (C := RX8) (T := TX8) (N := 16) hx hb hts (fun _ h => List.mem_cons_of_mem _ (List.mem_append_right _ h)) hown hK hP 0 rfl rfl 12 (by decide) (hts (.fieldLink RX8 29 "WinterWalkModel" "trace" "[I") (List.mem_of_getElem? (i := 2) rfl)) (fun _ h9 => h9) rfl dX8_begins_10 ?_
  refine lv_aload_n hx hb dX8_begins_13 rfl (lv_at hl 0 rfl) ?_
  refine va_get (D := D) (ci := 7) (v := .int 3) (C := RX8) (T := TX8) (N := 16) hx hb hts (fun _ h => List.mem_cons_of_mem _ (List.mem_append_right _ h)) hown hK hP 0 rfl rfl 13 (by decide) (hts (.fieldLink RX8 208 "WinterWalkModel" "traced" "I") (List.mem_of_getElem? (i := 1) rfl)) (fun _ h9 => h9) rfl dX8_begins_14 ?_
  refine lv_iload_n hx hb dX8_begins_17 rfl (lv_at hl 1 rfl) ?_
  refine va_iast hx hb hK hP hD hS 1 0 rfl rfl (zi_in (by decide) (by decide)) dX8_begins_18 (fun H locs hP hD hS => ?_)
  have hP : va_P D kl [(h, .inr (7, [.ref sl, .int na, .ref zs, .ref ln, .ref ir, .ref tk, .int su, .int le, .ref tb, .int fu, .int ap, .int pp, .ref tr, .int 3, .ref fz, .int nm])), (tr, .inl (cI, 16, .inl (upd trf (3 : Int32).toNatClampNeg 13)))] H := hP
  have hD : va_D A [(h, .inr (7, [.ref sl, .int na, .ref zs, .ref ln, .ref ir, .ref tk, .int su, .int le, .ref tb, .int fu, .int ap, .int pp, .ref tr, .int 3, .ref fz, .int nm])), (tr, .inl (cI, 16, .inl (upd trf (3 : Int32).toNatClampNeg 13)))] := hD
  refine lv_aload_n hx hb dX8_begins_19 rfl (lv_at hl 0 rfl) ?_
  refine lv_dup hx hb dX8_begins_20 rfl ?_
  refine va_get (D := D) (ci := 7) (v := .int 3) (C := RX8) (T := TX8) (N := 16) hx hb hts (fun _ h => List.mem_cons_of_mem _ (List.mem_append_right _ h)) hown hK hP 0 rfl rfl 13 (by decide) (hts (.fieldLink RX8 208 "WinterWalkModel" "traced" "I") (List.mem_of_getElem? (i := 1) rfl)) (fun _ h9 => h9) rfl dX8_begins_21 ?_
  refine lv_iconst (v := 1) hx hb dX8_begins_24 (by decide) ?_
  refine lv_iadd hx hb dX8_begins_25 ?_
  refine lv_topi (fun x_1 ex_1 => ?_)
  obtain rfl : x_1 = 4 := ex_1.trans (by decide)
  refine va_put (D := D) (ci := 7) (v := .int 4) (ty := .int) (C := RX8) (T := TX8) (N := 16) hx hb hts (fun _ h => List.mem_cons_of_mem _ (List.mem_append_right _ h)) tyX8 tyX8_ok nmX8 hown hK hP hD hS 0 rfl rfl 13 (by decide) (hts (.fieldLink RX8 208 "WinterWalkModel" "traced" "I") (List.mem_of_getElem? (i := 1) rfl)) (fun _ h9 => h9) rfl (by decide +kernel) rfl rfl (Nat.le_of_ble_eq_true rfl) dX8_begins_26 (fun H locs hP hD hS => ?_)
  have hP : va_P D kl [(h, .inr (7, [.ref sl, .int na, .ref zs, .ref ln, .ref ir, .ref tk, .int su, .int le, .ref tb, .int fu, .int ap, .int pp, .ref tr, .int 4, .ref fz, .int nm])), (tr, .inl (cI, 16, .inl (upd trf (3 : Int32).toNatClampNeg 13)))] H := hP
  have hD : va_D A [(h, .inr (7, [.ref sl, .int na, .ref zs, .ref ln, .ref ir, .ref tk, .int su, .int le, .ref tb, .int fu, .int ap, .int pp, .ref tr, .int 4, .ref fz, .int nm])), (tr, .inl (cI, 16, .inl (upd trf (3 : Int32).toNatClampNeg 13)))] := hD
  exact wr_v hx hb hr hlocks hS () (by trivial) (hP.sub [0, 1] rfl) (hD.sub [0, 1] (by decide) rfl) dX8_begins_29
set_option maxHeartbeats 4000000 in
set_option maxRecDepth 100000 in
theorem t_X8_begins_10_4 (l : Launch) (D : va_G) (cI cB cQ : ClassId) (sz : Nat) (h : Nat) (sl : Nat) (zs : Nat) (ln : Nat) (ir : Nat) (tk : Nat) (tb : Nat) (tr : Nat) (fz : Nat) (na : Int32) (su : Int32) (le : Int32) (fu : Int32) (ap : Int32) (pp : Int32) (nm : Int32) (trf : Nat → Int32) (h_na : 0 ≤ na.toInt ∧ na.toInt ≤ 24) (h_le : 0 ≤ le.toInt ∧ le.toInt ≤ 120) (h_ap : 0 ≤ ap.toInt ∧ ap.toInt ≤ 120) (h_pp : 0 ≤ pp.toInt ∧ pp.toInt ≤ 120) : mv l yX8_begins wsX8_begins ({ frames := 0, cells := 0, slots := 0, locals := 0 }) D cI cB cQ [.ref h, .int 10] sz [(h, .inr (7, [.ref sl, .int na, .ref zs, .ref ln, .ref ir, .ref tk, .int su, .int le, .ref tb, .int fu, .int ap, .int pp, .ref tr, .int 4, .ref fz, .int nm])), (tr, .inl (cI, 16, .inl trf))] (fun (_u : Unit) => True) (fun _ => [(h, .inr (7, [.ref sl, .int na, .ref zs, .ref ln, .ref ir, .ref tk, .int su, .int le, .ref tb, .int fu, .int ap, .int pp, .ref tr, .int 5, .ref fz, .int nm])), (tr, .inl (cI, 16, .inl (upd trf (4 : Int32).toNatClampNeg 10)))]) 0 0 := by
  refine wm_v (cc := cX8_begins) (maxL := 2) (ret := none) (by decide) rfl (Nat.le_of_ble_eq_true rfl) ?_
  intro p e s m below meth c A ls hx hb hr hml hown hts hlocks hin hP hK hD hN hA hl hS
  have hown : s.vm.findClass RX8 = some m.cls := hown
  have hl : lv_has ls 2 [(0, .ref h), (1, .int 10)] := hl
  change W p l e ({ frames := 0, cells := 0, slots := 0, locals := 0 }) s m ([.ref h, .int 10] : List Value).toArray below meth c s.heap [] 0 0 (MQ below (va_Qv (fun (_u : Unit) => True) (fun u t => wb D A ((fun _ => [(h, .inr (7, [.ref sl, .int na, .ref zs, .ref ln, .ref ir, .ref tk, .int su, .int le, .ref tb, .int fu, .int ap, .int pp, .ref tr, .int 5, .ref fz, .int nm])), (tr, .inl (cI, 16, .inl (upd trf (4 : Int32).toNatClampNeg 10)))]) u) t) A) ([.ref h, .int 10] : List Value).toArray s 0 0 A) (F0 m 0 ls [])
  refine lv_aload_n hx hb dX8_begins_0 rfl (lv_at hl 0 rfl) ?_
  refine va_get (D := D) (ci := 7) (v := .int 4) (C := RX8) (T := TX8) (N := 16) hx hb hts (fun _ h => List.mem_cons_of_mem _ (List.mem_append_right _ h)) hown hK hP 0 rfl rfl 13 (by decide) (hts (.fieldLink RX8 208 "WinterWalkModel" "traced" "I") (List.mem_of_getElem? (i := 1) rfl)) (fun _ h9 => h9) rfl dX8_begins_1 ?_
  refine lv_bipush (v := 16) hx hb dX8_begins_4 (by decide) ?_
  refine lv_icmp_ge (tgt := 29) hx hb dX8_begins_6 (by decide) (fun c9 => absurd c9 (by decide)) (fun _ => ?_)
  refine lv_aload_n hx hb dX8_begins_9 rfl (lv_at hl 0 rfl) ?_
  refine va_get (D := D) (ci := 7) (v := .ref tr) (C := RX8) (T := TX8) (N := 16) hx hb hts (fun _ h => List.mem_cons_of_mem _ (List.mem_append_right _ h)) hown hK hP 0 rfl rfl 12 (by decide) (hts (.fieldLink RX8 29 "WinterWalkModel" "trace" "[I") (List.mem_of_getElem? (i := 2) rfl)) (fun _ h9 => h9) rfl dX8_begins_10 ?_
  refine lv_aload_n hx hb dX8_begins_13 rfl (lv_at hl 0 rfl) ?_
  refine va_get (D := D) (ci := 7) (v := .int 4) (C := RX8) (T := TX8) (N := 16) hx hb hts (fun _ h => List.mem_cons_of_mem _ (List.mem_append_right _ h)) hown hK hP 0 rfl rfl 13 (by decide) (hts (.fieldLink RX8 208 "WinterWalkModel" "traced" "I") (List.mem_of_getElem? (i := 1) rfl)) (fun _ h9 => h9) rfl dX8_begins_14 ?_
  refine lv_iload_n hx hb dX8_begins_17 rfl (lv_at hl 1 rfl) ?_
  refine va_iast hx hb hK hP hD hS 1 0 rfl rfl (zi_in (by decide) (by decide)) dX8_begins_18 (fun H locs hP hD hS => ?_)
  have hP : va_P D kl [(h, .inr (7, [.ref sl, .int na, .ref zs, .ref ln, .ref ir, .ref tk, .int su, .int le, .ref tb, .int fu, .int ap, .int pp, .ref tr, .int 4, .ref fz, .int nm])), (tr, .inl (cI, 16, .inl (upd trf (4 : Int32).toNatClampNeg 10)))] H := hP
  have hD : va_D A [(h, .inr (7, [.ref sl, .int na, .ref zs, .ref ln, .ref ir, .ref tk, .int su, .int le, .ref tb, .int fu, .int ap, .int pp, .ref tr, .int 4, .ref fz, .int nm])), (tr, .inl (cI, 16, .inl (upd trf (4 : Int32).toNatClampNeg 10)))] := hD
  refine lv_aload_n hx hb dX8_begins_19 rfl (lv_at hl 0 rfl) ?_
  refine lv_dup hx hb dX8_begins_20 rfl ?_
  refine va_get (D := D) (ci := 7) (v := .int 4) (C := RX8) (T := TX8) (N := 16) hx hb hts (fun _ h => List.mem_cons_of_mem _ (List.mem_append_right _ h)) hown hK hP 0 rfl rfl 13 (by decide) (hts (.fieldLink RX8 208 "WinterWalkModel" "traced" "I") (List.mem_of_getElem? (i := 1) rfl)) (fun _ h9 => h9) rfl dX8_begins_21 ?_
  refine lv_iconst (v := 1) hx hb dX8_begins_24 (by decide) ?_
  refine lv_iadd hx hb dX8_begins_25 ?_
  refine lv_topi (fun x_1 ex_1 => ?_)
  obtain rfl : x_1 = 5 := ex_1.trans (by decide)
  refine va_put (D := D) (ci := 7) (v := .int 5) (ty := .int) (C := RX8) (T := TX8) (N := 16) hx hb hts (fun _ h => List.mem_cons_of_mem _ (List.mem_append_right _ h)) tyX8 tyX8_ok nmX8 hown hK hP hD hS 0 rfl rfl 13 (by decide) (hts (.fieldLink RX8 208 "WinterWalkModel" "traced" "I") (List.mem_of_getElem? (i := 1) rfl)) (fun _ h9 => h9) rfl (by decide +kernel) rfl rfl (Nat.le_of_ble_eq_true rfl) dX8_begins_26 (fun H locs hP hD hS => ?_)
  have hP : va_P D kl [(h, .inr (7, [.ref sl, .int na, .ref zs, .ref ln, .ref ir, .ref tk, .int su, .int le, .ref tb, .int fu, .int ap, .int pp, .ref tr, .int 5, .ref fz, .int nm])), (tr, .inl (cI, 16, .inl (upd trf (4 : Int32).toNatClampNeg 10)))] H := hP
  have hD : va_D A [(h, .inr (7, [.ref sl, .int na, .ref zs, .ref ln, .ref ir, .ref tk, .int su, .int le, .ref tb, .int fu, .int ap, .int pp, .ref tr, .int 5, .ref fz, .int nm])), (tr, .inl (cI, 16, .inl (upd trf (4 : Int32).toNatClampNeg 10)))] := hD
  exact wr_v hx hb hr hlocks hS () (by trivial) (hP.sub [0, 1] rfl) (hD.sub [0, 1] (by decide) rfl) dX8_begins_29
set_option maxHeartbeats 4000000 in
set_option maxRecDepth 100000 in
theorem t_X8_size10_0_4 (l : Launch) (D : va_G) (cI cB cQ : ClassId) (sz : Nat) (h : Nat) (sl : Nat) (zs : Nat) (ln : Nat) (ir : Nat) (tk : Nat) (tb : Nat) (tr : Nat) (fz : Nat) (na : Int32) (su : Int32) (le : Int32) (fu : Int32) (ap : Int32) (pp : Int32) (nm : Int32) (v : Int32) (sf : Nat → Int32) (trf : Nat → Int32) (v0 : Int) (hsi : SI sf v0) (h_na : 0 ≤ na.toInt ∧ na.toInt ≤ 24) (h_le : 0 ≤ le.toInt ∧ le.toInt ≤ 120) (h_ap : 0 ≤ ap.toInt ∧ ap.toInt ≤ 120) (h_pp : 0 ≤ pp.toInt ∧ pp.toInt ≤ 120) (h_v : 0 ≤ v.toInt ∧ v.toInt ≤ 2) : mi l yX8_size10 wsX8_size10 ({ frames := 1, cells := 0, slots := 0, locals := 21 }) D cI cB cQ [.ref h, .int v] sz [(h, .inr (7, [.ref sl, .int na, .ref zs, .ref ln, .ref ir, .ref tk, .int su, .int le, .ref tb, .int fu, .int ap, .int pp, .ref tr, .int 4, .ref fz, .int nm])), (sl, .inl (cI, 1653, .inl sf)), (tr, .inl (cI, 16, .inl trf))] (fun (r : Int32) (_u : Unit) => True) (fun _ => [(h, .inr (7, [.ref sl, .int na, .ref zs, .ref ln, .ref ir, .ref tk, .int su, .int le, .ref tb, .int fu, .int ap, .int pp, .ref tr, .int 5, .ref fz, .int nm])), (sl, .inl (cI, 1653, .inl sf)), (tr, .inl (cI, 16, .inl (upd trf (4 : Int32).toNatClampNeg 10)))]) 0 0 := by
  refine wm_i (cc := cX8_size10) (maxL := 2) (ret := (some .int)) (by decide) rfl (Nat.le_of_ble_eq_true rfl) ?_
  intro p e s m below meth c A ls hx hb hr hml hown hts hlocks hin hP hK hD hN hA hl hS
  have hown : s.vm.findClass RX8 = some m.cls := hown
  have hl : lv_has ls 2 [(0, .ref h), (1, .int v)] := hl
  change W p l e ({ frames := 1, cells := 0, slots := 0, locals := 21 }) s m ([.ref h, .int v] : List Value).toArray below meth c s.heap [] 0 0 (MQ below (va_Qi (fun (r : Int32) (_u : Unit) => True) (fun u t => wb D A ((fun _ => [(h, .inr (7, [.ref sl, .int na, .ref zs, .ref ln, .ref ir, .ref tk, .int su, .int le, .ref tb, .int fu, .int ap, .int pp, .ref tr, .int 5, .ref fz, .int nm])), (sl, .inl (cI, 1653, .inl sf)), (tr, .inl (cI, 16, .inl (upd trf (4 : Int32).toNatClampNeg 10)))]) u) t) A) ([.ref h, .int v] : List Value).toArray s 0 0 A) (F0 m 0 ls [])
  refine lv_aload_n hx hb dX8_size10_0 rfl (lv_at hl 0 rfl) ?_
  refine lv_bipush (v := 10) hx hb dX8_size10_1 (by decide) ?_
  have k_1 := (t_X8_begins_10_4 l D cI cB cQ s.heap.size h sl zs ln ir tk tb tr fz na su le fu ap pp nm trf (by omega) (by omega) (by omega) (by omega))
  refine wc_v (WC := [(h, .inr (7, [.ref sl, .int na, .ref zs, .ref ln, .ref ir, .ref tk, .int su, .int le, .ref tb, .int fu, .int ap, .int pp, .ref tr, .int 4, .ref fz, .int nm])), (tr, .inl (cI, 16, .inl trf))]) (WR := [(sl, .inl (cI, 1653, .inl sf))]) (va_runV (As := [.int 10]) (rest := []) ⟨hx, hb, hml, hown, hts⟩ k_1 (cwV 1 hts gX8_size10_X8_begins rfl rfl rfl (by decide +kernel) ⟨Nat.le_of_ble_eq_true rfl, Nat.le_of_ble_eq_true rfl⟩) (wp_V hP hK hD hN [0, 2] (by decide) rfl (ci := 7) rfl rfl) rfl rfl hl.1 rfl (lv_room (Nat.le_of_ble_eq_true rfl)) dX8_size10_3 ⟨Nat.le_of_ble_eq_true rfl, Nat.le_of_ble_eq_true rfl⟩) hP hD hS hA [0, 2] [1] rfl rfl (by decide) (by decide) (fun u_1 H locs hw_1 hP hD hS => ?_)
  clear k_1
  have hP : va_P D kl [(sl, .inl (cI, 1653, .inl sf)), (h, .inr (7, [.ref sl, .int na, .ref zs, .ref ln, .ref ir, .ref tk, .int su, .int le, .ref tb, .int fu, .int ap, .int pp, .ref tr, .int 5, .ref fz, .int nm])), (tr, .inl (cI, 16, .inl (upd trf (4 : Int32).toNatClampNeg 10)))] H := hP
  have hD : va_D A [(sl, .inl (cI, 1653, .inl sf)), (h, .inr (7, [.ref sl, .int na, .ref zs, .ref ln, .ref ir, .ref tk, .int su, .int le, .ref tb, .int fu, .int ap, .int pp, .ref tr, .int 5, .ref fz, .int nm])), (tr, .inl (cI, 16, .inl (upd trf (4 : Int32).toNatClampNeg 10)))] := hD
  clear hw_1
  refine lv_aload_n hx hb dX8_size10_6 rfl (lv_at hl 0 rfl) ?_
  refine va_get (D := D) (ci := 7) (v := .ref sl) (C := RX8) (T := TX8) (N := 16) hx hb hts (fun _ h => List.mem_cons_of_mem _ (List.mem_append_right _ h)) hown hK hP 1 rfl rfl 0 (by decide) (hts (.fieldLink RX8 7 "WinterWalkModel" "slot" "[I") (List.mem_of_getElem? (i := 1) rfl)) (fun _ h9 => h9) rfl dX8_size10_7 ?_
  refine lv_bipush (v := 48) hx hb dX8_size10_10 (by decide) ?_
  refine lv_iload_n hx hb dX8_size10_12 rfl (lv_at hl 1 rfl) ?_
  refine lv_iadd hx hb dX8_size10_13 ?_
  refine lv_topi (fun x_2 ex_2 => ?_)
  have e_2 : x_2.toInt = 48 + v.toInt := by rw [ex_2]; exact zi_add (by decide) (rfl) (by omega) (by omega)
  clear ex_2
  refine va_iald hx hb hK hP 0 0 rfl rfl (zi_in (by omega) (by omega)) dX8_size10_14 ?_
  refine lv_topi (fun x_3 ex_3 => ?_)
  have f_3 : 0 ≤ x_3.toInt ∧ x_3.toInt ≤ 7 := by rw [ex_3]; exact si_a hsi (s := 0) (k := v.toInt) (by omega) (by omega) (by omega)
  clear ex_3
  exact wr_i (v := x_3) hx hb hr hlocks hS () (by trivial) (hP.sub [1, 0, 2] rfl) (hD.sub [1, 0, 2] (by decide) rfl) dX8_size10_15
set_option maxHeartbeats 4000000 in
set_option maxRecDepth 100000 in
theorem t_X8_size13_0_3 (l : Launch) (D : va_G) (cI cB cQ : ClassId) (sz : Nat) (h : Nat) (sl : Nat) (zs : Nat) (ln : Nat) (ir : Nat) (tk : Nat) (tb : Nat) (tr : Nat) (fz : Nat) (na : Int32) (su : Int32) (le : Int32) (fu : Int32) (ap : Int32) (pp : Int32) (nm : Int32) (v : Int32) (sf : Nat → Int32) (trf : Nat → Int32) (v0 : Int) (hsi : SI sf v0) (h_na : 0 ≤ na.toInt ∧ na.toInt ≤ 24) (h_le : 0 ≤ le.toInt ∧ le.toInt ≤ 120) (h_ap : 0 ≤ ap.toInt ∧ ap.toInt ≤ 120) (h_pp : 0 ≤ pp.toInt ∧ pp.toInt ≤ 120) (h_v : 0 ≤ v.toInt ∧ v.toInt ≤ 2) : mi l yX8_size13 wsX8_size13 ({ frames := 2, cells := 0, slots := 0, locals := 42 }) D cI cB cQ [.ref h, .int v] sz [(h, .inr (7, [.ref sl, .int na, .ref zs, .ref ln, .ref ir, .ref tk, .int su, .int le, .ref tb, .int fu, .int ap, .int pp, .ref tr, .int 3, .ref fz, .int nm])), (sl, .inl (cI, 1653, .inl sf)), (tr, .inl (cI, 16, .inl trf))] (fun (r : Int32) (_u : Unit) => True) (fun _ => [(h, .inr (7, [.ref sl, .int na, .ref zs, .ref ln, .ref ir, .ref tk, .int su, .int le, .ref tb, .int fu, .int ap, .int pp, .ref tr, .int 5, .ref fz, .int nm])), (sl, .inl (cI, 1653, .inl sf)), (tr, .inl (cI, 16, .inl (upd (upd trf (3 : Int32).toNatClampNeg 13) (4 : Int32).toNatClampNeg 10)))]) 0 0 := by
  refine wm_i (cc := cX8_size13) (maxL := 2) (ret := (some .int)) (by decide) rfl (Nat.le_of_ble_eq_true rfl) ?_
  intro p e s m below meth c A ls hx hb hr hml hown hts hlocks hin hP hK hD hN hA hl hS
  have hown : s.vm.findClass RX8 = some m.cls := hown
  have hl : lv_has ls 2 [(0, .ref h), (1, .int v)] := hl
  change W p l e ({ frames := 2, cells := 0, slots := 0, locals := 42 }) s m ([.ref h, .int v] : List Value).toArray below meth c s.heap [] 0 0 (MQ below (va_Qi (fun (r : Int32) (_u : Unit) => True) (fun u t => wb D A ((fun _ => [(h, .inr (7, [.ref sl, .int na, .ref zs, .ref ln, .ref ir, .ref tk, .int su, .int le, .ref tb, .int fu, .int ap, .int pp, .ref tr, .int 5, .ref fz, .int nm])), (sl, .inl (cI, 1653, .inl sf)), (tr, .inl (cI, 16, .inl (upd (upd trf (3 : Int32).toNatClampNeg 13) (4 : Int32).toNatClampNeg 10)))]) u) t) A) ([.ref h, .int v] : List Value).toArray s 0 0 A) (F0 m 0 ls [])
  refine lv_aload_n hx hb dX8_size13_0 rfl (lv_at hl 0 rfl) ?_
  refine lv_bipush (v := 13) hx hb dX8_size13_1 (by decide) ?_
  have k_1 := (t_X8_begins_13_3 l D cI cB cQ s.heap.size h sl zs ln ir tk tb tr fz na su le fu ap pp nm trf (by omega) (by omega) (by omega) (by omega))
  refine wc_v (WC := [(h, .inr (7, [.ref sl, .int na, .ref zs, .ref ln, .ref ir, .ref tk, .int su, .int le, .ref tb, .int fu, .int ap, .int pp, .ref tr, .int 3, .ref fz, .int nm])), (tr, .inl (cI, 16, .inl trf))]) (WR := [(sl, .inl (cI, 1653, .inl sf))]) (va_runV (As := [.int 13]) (rest := []) ⟨hx, hb, hml, hown, hts⟩ k_1 (cwV 1 hts gX8_size13_X8_begins rfl rfl rfl (by decide +kernel) ⟨Nat.le_of_ble_eq_true rfl, Nat.le_of_ble_eq_true rfl⟩) (wp_V hP hK hD hN [0, 2] (by decide) rfl (ci := 7) rfl rfl) rfl rfl hl.1 rfl (lv_room (Nat.le_of_ble_eq_true rfl)) dX8_size13_3 ⟨Nat.le_of_ble_eq_true rfl, Nat.le_of_ble_eq_true rfl⟩) hP hD hS hA [0, 2] [1] rfl rfl (by decide) (by decide) (fun u_1 H locs hw_1 hP hD hS => ?_)
  clear k_1
  have hP : va_P D kl [(sl, .inl (cI, 1653, .inl sf)), (h, .inr (7, [.ref sl, .int na, .ref zs, .ref ln, .ref ir, .ref tk, .int su, .int le, .ref tb, .int fu, .int ap, .int pp, .ref tr, .int 4, .ref fz, .int nm])), (tr, .inl (cI, 16, .inl (upd trf (3 : Int32).toNatClampNeg 13)))] H := hP
  have hD : va_D A [(sl, .inl (cI, 1653, .inl sf)), (h, .inr (7, [.ref sl, .int na, .ref zs, .ref ln, .ref ir, .ref tk, .int su, .int le, .ref tb, .int fu, .int ap, .int pp, .ref tr, .int 4, .ref fz, .int nm])), (tr, .inl (cI, 16, .inl (upd trf (3 : Int32).toNatClampNeg 13)))] := hD
  clear hw_1
  refine lv_aload_n hx hb dX8_size13_6 rfl (lv_at hl 0 rfl) ?_
  refine lv_iload_n hx hb dX8_size13_7 rfl (lv_at hl 1 rfl) ?_
  have k_2 := (t_X8_size10_0_4 l D cI cB cQ H.size h sl zs ln ir tk tb tr fz na su le fu ap pp nm v sf (upd trf (3 : Int32).toNatClampNeg 13) v0 hsi (by omega) (by omega) (by omega) (by omega) (by omega))
  refine wc_i (WC := [(h, .inr (7, [.ref sl, .int na, .ref zs, .ref ln, .ref ir, .ref tk, .int su, .int le, .ref tb, .int fu, .int ap, .int pp, .ref tr, .int 4, .ref fz, .int nm])), (sl, .inl (cI, 1653, .inl sf)), (tr, .inl (cI, 16, .inl (upd trf (3 : Int32).toNatClampNeg 13)))]) (WR := []) (va_runV (As := [.int v]) (rest := []) ⟨hx, hb, hml, hown, hts⟩ k_2 (cwV 1 hts gX8_size13_X8_size10 rfl rfl rfl (by decide +kernel) ⟨Nat.le_of_ble_eq_true rfl, Nat.le_of_ble_eq_true rfl⟩) (wp_V hP hK hD hN [1, 0, 2] (by decide) rfl (ci := 7) rfl rfl) rfl rfl hl.1 rfl (lv_room (Nat.le_of_ble_eq_true rfl)) dX8_size13_8 ⟨Nat.le_of_ble_eq_true rfl, Nat.le_of_ble_eq_true rfl⟩) hP hD hS hA [1, 0, 2] [] rfl rfl (by decide) (by decide) (fun r_2 u_2 H locs hw_2 hP hD hS => ?_)
  clear k_2
  have hP : va_P D kl [(h, .inr (7, [.ref sl, .int na, .ref zs, .ref ln, .ref ir, .ref tk, .int su, .int le, .ref tb, .int fu, .int ap, .int pp, .ref tr, .int 5, .ref fz, .int nm])), (sl, .inl (cI, 1653, .inl sf)), (tr, .inl (cI, 16, .inl (upd (upd trf (3 : Int32).toNatClampNeg 13) (4 : Int32).toNatClampNeg 10)))] H := hP
  have hD : va_D A [(h, .inr (7, [.ref sl, .int na, .ref zs, .ref ln, .ref ir, .ref tk, .int su, .int le, .ref tb, .int fu, .int ap, .int pp, .ref tr, .int 5, .ref fz, .int nm])), (sl, .inl (cI, 1653, .inl sf)), (tr, .inl (cI, 16, .inl (upd (upd trf (3 : Int32).toNatClampNeg 13) (4 : Int32).toNatClampNeg 10)))] := hD
  clear hw_2
  refine lv_bipush (v := 100) hx hb dX8_size13_11 (by decide) ?_
  refine lv_isub hx hb dX8_size13_13 ?_
  refine lv_topi (fun x_3 ex_3 => ?_)
  clear ex_3
  exact wr_i (v := x_3) hx hb hr hlocks hS () (by trivial) (hP.sub [0, 1, 2] rfl) (hD.sub [0, 1, 2] (by decide) rfl) dX8_size13_14
set_option maxHeartbeats 4000000 in
set_option maxRecDepth 100000 in
theorem t_X8_sizeOf_5_2 (l : Launch) (D : va_G) (cI cB cQ : ClassId) (sz : Nat) (h : Nat) (sl : Nat) (zs : Nat) (ln : Nat) (ir : Nat) (tk : Nat) (tb : Nat) (tr : Nat) (fz : Nat) (na : Int32) (su : Int32) (le : Int32) (fu : Int32) (ap : Int32) (pp : Int32) (nm : Int32) (v : Int32) (sf : Nat → Int32) (trf : Nat → Int32) (v0 : Int) (hsi : SI sf v0) (h_na : 0 ≤ na.toInt ∧ na.toInt ≤ 24) (h_le : 0 ≤ le.toInt ∧ le.toInt ≤ 120) (h_ap : 0 ≤ ap.toInt ∧ ap.toInt ≤ 120) (h_pp : 0 ≤ pp.toInt ∧ pp.toInt ≤ 120) (h_v : 0 ≤ v.toInt ∧ v.toInt ≤ 2) (h_kd : sf (20 + v.toNatClampNeg) = 5) : mi l yX8_sizeOf wsX8_sizeOf ({ frames := 3, cells := 0, slots := 0, locals := 63 }) D cI cB cQ [.ref h, .int v] sz [(h, .inr (7, [.ref sl, .int na, .ref zs, .ref ln, .ref ir, .ref tk, .int su, .int le, .ref tb, .int fu, .int ap, .int pp, .ref tr, .int 2, .ref fz, .int nm])), (sl, .inl (cI, 1653, .inl sf)), (tr, .inl (cI, 16, .inl trf))] (fun (r : Int32) (_u : Unit) => True) (fun _ => [(h, .inr (7, [.ref sl, .int na, .ref zs, .ref ln, .ref ir, .ref tk, .int su, .int le, .ref tb, .int fu, .int ap, .int pp, .ref tr, .int 5, .ref fz, .int nm])), (sl, .inl (cI, 1653, .inl sf)), (tr, .inl (cI, 16, .inl (upd (upd (upd trf (2 : Int32).toNatClampNeg 14) (3 : Int32).toNatClampNeg 13) (4 : Int32).toNatClampNeg 10)))]) 0 0 := by
  refine wm_i (cc := cX8_sizeOf) (maxL := 3) (ret := (some .int)) (by decide) rfl (Nat.le_of_ble_eq_true rfl) ?_
  intro p e s m below meth c A ls hx hb hr hml hown hts hlocks hin hP hK hD hN hA hl hS
  have hown : s.vm.findClass RX8 = some m.cls := hown
  have hl : lv_has ls 3 [(0, .ref h), (1, .int v)] := hl
  change W p l e ({ frames := 3, cells := 0, slots := 0, locals := 63 }) s m ([.ref h, .int v] : List Value).toArray below meth c s.heap [] 0 0 (MQ below (va_Qi (fun (r : Int32) (_u : Unit) => True) (fun u t => wb D A ((fun _ => [(h, .inr (7, [.ref sl, .int na, .ref zs, .ref ln, .ref ir, .ref tk, .int su, .int le, .ref tb, .int fu, .int ap, .int pp, .ref tr, .int 5, .ref fz, .int nm])), (sl, .inl (cI, 1653, .inl sf)), (tr, .inl (cI, 16, .inl (upd (upd (upd trf (2 : Int32).toNatClampNeg 14) (3 : Int32).toNatClampNeg 13) (4 : Int32).toNatClampNeg 10)))]) u) t) A) ([.ref h, .int v] : List Value).toArray s 0 0 A) (F0 m 0 ls [])
  refine lv_aload_n hx hb dX8_sizeOf_0 rfl (lv_at hl 0 rfl) ?_
  refine va_get (D := D) (ci := 7) (v := .ref sl) (C := RX8) (T := TX8) (N := 16) hx hb hts (fun _ h => List.mem_cons_of_mem _ (List.mem_append_right _ h)) hown hK hP 0 rfl rfl 0 (by decide) (hts (.fieldLink RX8 7 "WinterWalkModel" "slot" "[I") (List.mem_of_getElem? (i := 1) rfl)) (fun _ h9 => h9) rfl dX8_sizeOf_1 ?_
  refine lv_bipush (v := 20) hx hb dX8_sizeOf_4 (by decide) ?_
  refine lv_iload_n hx hb dX8_sizeOf_6 rfl (lv_at hl 1 rfl) ?_
  refine lv_iadd hx hb dX8_sizeOf_7 ?_
  refine lv_topi (fun x_1 ex_1 => ?_)
  have e_1 : x_1.toInt = 20 + v.toInt := by rw [ex_1]; exact zi_add (by decide) (rfl) (by omega) (by omega)
  clear ex_1
  refine va_iald hx hb hK hP 1 0 rfl rfl (zi_in (by omega) (by omega)) dX8_sizeOf_8 ?_
  refine lv_topi (fun x_2 ex_2 => ?_)
  obtain rfl : x_2 = 5 := ex_2.trans ((congrArg sf (show (x_1 : Int32).toNatClampNeg = 20 + v.toNatClampNeg from by have h9 := zi_cn (x := x_1) (by omega); have h8 := zi_cn (x := v) (by omega); omega)).trans h_kd)
  refine lv_istore_n (lv' := [(2, .int 5), (0, .ref h), (1, .int v)]) hx hb dX8_sizeOf_9 rfl hl (by decide) rfl (fun ls hl => ?_)
  refine lv_iload_n hx hb dX8_sizeOf_10 rfl (lv_at hl 0 rfl) ?_
  refine lv_iconst (v := 1) hx hb dX8_sizeOf_11 (by decide) ?_
  refine lv_icmp_eq (tgt := 20) hx hb dX8_sizeOf_12 (by decide) (fun c9 => absurd c9 (by decide)) (fun _ => ?_)
  refine lv_iload_n hx hb dX8_sizeOf_15 rfl (lv_at hl 0 rfl) ?_
  refine lv_iconst (v := 3) hx hb dX8_sizeOf_16 (by decide) ?_
  refine lv_icmp_ne (tgt := 26) hx hb dX8_sizeOf_17 (by decide) (fun _ => ?_) (fun c9 => absurd c9 (by decide))
  refine lv_iload_n hx hb dX8_sizeOf_26 rfl (lv_at hl 0 rfl) ?_
  refine lv_iconst (v := 4) hx hb dX8_sizeOf_27 (by decide) ?_
  refine lv_icmp_ne (tgt := 37) hx hb dX8_sizeOf_28 (by decide) (fun _ => ?_) (fun c9 => absurd c9 (by decide))
  refine lv_aload_n hx hb dX8_sizeOf_37 rfl (lv_at hl 1 rfl) ?_
  refine lv_iload_n hx hb dX8_sizeOf_38 rfl (lv_at hl 0 rfl) ?_
  refine lv_iconst (v := 2) hx hb dX8_sizeOf_39 (by decide) ?_
  refine lv_icmp_ne (tgt := 48) hx hb dX8_sizeOf_40 (by decide) (fun _ => ?_) (fun c9 => absurd c9 (by decide))
  refine lv_bipush (v := 14) hx hb dX8_sizeOf_48 (by decide) ?_
  have k_3 := (t_X8_begins_14_2 l D cI cB cQ s.heap.size h sl zs ln ir tk tb tr fz na su le fu ap pp nm trf (by omega) (by omega) (by omega) (by omega))
  refine wc_v (WC := [(h, .inr (7, [.ref sl, .int na, .ref zs, .ref ln, .ref ir, .ref tk, .int su, .int le, .ref tb, .int fu, .int ap, .int pp, .ref tr, .int 2, .ref fz, .int nm])), (tr, .inl (cI, 16, .inl trf))]) (WR := [(sl, .inl (cI, 1653, .inl sf))]) (va_runV (As := [.int 14]) (rest := []) ⟨hx, hb, hml, hown, hts⟩ k_3 (cwV 1 hts gX8_sizeOf_X8_begins rfl rfl rfl (by decide +kernel) ⟨Nat.le_of_ble_eq_true rfl, Nat.le_of_ble_eq_true rfl⟩) (wp_V hP hK hD hN [0, 2] (by decide) rfl (ci := 7) rfl rfl) rfl rfl hl.1 rfl (lv_room (Nat.le_of_ble_eq_true rfl)) dX8_sizeOf_50 ⟨Nat.le_of_ble_eq_true rfl, Nat.le_of_ble_eq_true rfl⟩) hP hD hS hA [0, 2] [1] rfl rfl (by decide) (by decide) (fun u_3 H locs hw_3 hP hD hS => ?_)
  clear k_3
  have hP : va_P D kl [(sl, .inl (cI, 1653, .inl sf)), (h, .inr (7, [.ref sl, .int na, .ref zs, .ref ln, .ref ir, .ref tk, .int su, .int le, .ref tb, .int fu, .int ap, .int pp, .ref tr, .int 3, .ref fz, .int nm])), (tr, .inl (cI, 16, .inl (upd trf (2 : Int32).toNatClampNeg 14)))] H := hP
  have hD : va_D A [(sl, .inl (cI, 1653, .inl sf)), (h, .inr (7, [.ref sl, .int na, .ref zs, .ref ln, .ref ir, .ref tk, .int su, .int le, .ref tb, .int fu, .int ap, .int pp, .ref tr, .int 3, .ref fz, .int nm])), (tr, .inl (cI, 16, .inl (upd trf (2 : Int32).toNatClampNeg 14)))] := hD
  clear hw_3
  refine lv_iload_n hx hb dX8_sizeOf_53 rfl (lv_at hl 0 rfl) ?_
  refine lv_iconst (v := 2) hx hb dX8_sizeOf_54 (by decide) ?_
  refine lv_icmp_ne (tgt := 67) hx hb dX8_sizeOf_55 (by decide) (fun _ => ?_) (fun c9 => absurd c9 (by decide))
  refine lv_iconst (v := 2) hx hb dX8_sizeOf_67 (by decide) ?_
  refine lv_aload_n hx hb dX8_sizeOf_68 rfl (lv_at hl 1 rfl) ?_
  refine lv_iload_n hx hb dX8_sizeOf_69 rfl (lv_at hl 2 rfl) ?_
  have k_4 := (t_X8_size13_0_3 l D cI cB cQ H.size h sl zs ln ir tk tb tr fz na su le fu ap pp nm v sf (upd trf (2 : Int32).toNatClampNeg 14) v0 hsi (by omega) (by omega) (by omega) (by omega) (by omega))
  refine wc_i (WC := [(h, .inr (7, [.ref sl, .int na, .ref zs, .ref ln, .ref ir, .ref tk, .int su, .int le, .ref tb, .int fu, .int ap, .int pp, .ref tr, .int 3, .ref fz, .int nm])), (sl, .inl (cI, 1653, .inl sf)), (tr, .inl (cI, 16, .inl (upd trf (2 : Int32).toNatClampNeg 14)))]) (WR := []) (va_runV (As := [.int v]) (rest := [.int 2]) ⟨hx, hb, hml, hown, hts⟩ k_4 (cwV 1 hts gX8_sizeOf_X8_size13 rfl rfl rfl (by decide +kernel) ⟨Nat.le_of_ble_eq_true rfl, Nat.le_of_ble_eq_true rfl⟩) (wp_V hP hK hD hN [1, 0, 2] (by decide) rfl (ci := 7) rfl rfl) rfl rfl hl.1 rfl (lv_room (Nat.le_of_ble_eq_true rfl)) dX8_sizeOf_70 ⟨Nat.le_of_ble_eq_true rfl, Nat.le_of_ble_eq_true rfl⟩) hP hD hS hA [1, 0, 2] [] rfl rfl (by decide) (by decide) (fun r_4 u_4 H locs hw_4 hP hD hS => ?_)
  clear k_4
  have hP : va_P D kl [(h, .inr (7, [.ref sl, .int na, .ref zs, .ref ln, .ref ir, .ref tk, .int su, .int le, .ref tb, .int fu, .int ap, .int pp, .ref tr, .int 5, .ref fz, .int nm])), (sl, .inl (cI, 1653, .inl sf)), (tr, .inl (cI, 16, .inl (upd (upd (upd trf (2 : Int32).toNatClampNeg 14) (3 : Int32).toNatClampNeg 13) (4 : Int32).toNatClampNeg 10)))] H := hP
  have hD : va_D A [(h, .inr (7, [.ref sl, .int na, .ref zs, .ref ln, .ref ir, .ref tk, .int su, .int le, .ref tb, .int fu, .int ap, .int pp, .ref tr, .int 5, .ref fz, .int nm])), (sl, .inl (cI, 1653, .inl sf)), (tr, .inl (cI, 16, .inl (upd (upd (upd trf (2 : Int32).toNatClampNeg 14) (3 : Int32).toNatClampNeg 13) (4 : Int32).toNatClampNeg 10)))] := hD
  clear hw_4
  refine lv_imul hx hb dX8_sizeOf_73 ?_
  refine lv_topi (fun x_5 ex_5 => ?_)
  clear ex_5
  exact wr_i (v := x_5) hx hb hr hlocks hS () (by trivial) (hP.sub [0, 1, 2] rfl) (hD.sub [0, 1, 2] (by decide) rfl) dX8_sizeOf_74
set_option maxHeartbeats 4000000 in
set_option maxRecDepth 100000 in
theorem t_X8_markOf_5_0 (l : Launch) (D : va_G) (cI cB cQ : ClassId) (sz : Nat) (h : Nat) (sl : Nat) (zs : Nat) (ln : Nat) (ir : Nat) (tk : Nat) (tb : Nat) (tr : Nat) (fz : Nat) (na : Int32) (su : Int32) (le : Int32) (fu : Int32) (ap : Int32) (pp : Int32) (nm : Int32) (v : Int32) (sf : Nat → Int32) (trf : Nat → Int32) (v0 : Int) (hsi : SI sf v0) (h_na : 0 ≤ na.toInt ∧ na.toInt ≤ 24) (h_le : 0 ≤ le.toInt ∧ le.toInt ≤ 120) (h_ap : 0 ≤ ap.toInt ∧ ap.toInt ≤ 120) (h_pp : 0 ≤ pp.toInt ∧ pp.toInt ≤ 120) (h_v : 0 ≤ v.toInt ∧ v.toInt ≤ 2) (h_kd : sf (20 + v.toNatClampNeg) = 5) : mi l yX8_markOf wsX8_markOf ({ frames := 4, cells := 0, slots := 0, locals := 85 }) D cI cB cQ [.ref h, .int v] sz [(h, .inr (7, [.ref sl, .int na, .ref zs, .ref ln, .ref ir, .ref tk, .int su, .int le, .ref tb, .int fu, .int ap, .int pp, .ref tr, .int 0, .ref fz, .int nm])), (sl, .inl (cI, 1653, .inl sf)), (tr, .inl (cI, 16, .inl trf))] (fun (r : Int32) (_u : Unit) => True) (fun _ => [(h, .inr (7, [.ref sl, .int na, .ref zs, .ref ln, .ref ir, .ref tk, .int su, .int le, .ref tb, .int fu, .int ap, .int pp, .ref tr, .int 5, .ref fz, .int nm])), (sl, .inl (cI, 1653, .inl sf)), (tr, .inl (cI, 16, .inl (upd (upd (upd (upd (upd trf (0 : Int32).toNatClampNeg 23) (1 : Int32).toNatClampNeg 20) (2 : Int32).toNatClampNeg 14) (3 : Int32).toNatClampNeg 13) (4 : Int32).toNatClampNeg 10)))]) 0 0 := by
  refine wm_i (cc := cX8_markOf) (maxL := 3) (ret := (some .int)) (by decide) rfl (Nat.le_of_ble_eq_true rfl) ?_
  intro p e s m below meth c A ls hx hb hr hml hown hts hlocks hin hP hK hD hN hA hl hS
  have hown : s.vm.findClass RX8 = some m.cls := hown
  have hl : lv_has ls 3 [(0, .ref h), (1, .int v)] := hl
  change W p l e ({ frames := 4, cells := 0, slots := 0, locals := 85 }) s m ([.ref h, .int v] : List Value).toArray below meth c s.heap [] 0 0 (MQ below (va_Qi (fun (r : Int32) (_u : Unit) => True) (fun u t => wb D A ((fun _ => [(h, .inr (7, [.ref sl, .int na, .ref zs, .ref ln, .ref ir, .ref tk, .int su, .int le, .ref tb, .int fu, .int ap, .int pp, .ref tr, .int 5, .ref fz, .int nm])), (sl, .inl (cI, 1653, .inl sf)), (tr, .inl (cI, 16, .inl (upd (upd (upd (upd (upd trf (0 : Int32).toNatClampNeg 23) (1 : Int32).toNatClampNeg 20) (2 : Int32).toNatClampNeg 14) (3 : Int32).toNatClampNeg 13) (4 : Int32).toNatClampNeg 10)))]) u) t) A) ([.ref h, .int v] : List Value).toArray s 0 0 A) (F0 m 0 ls [])
  refine lv_aload_n hx hb dX8_markOf_0 rfl (lv_at hl 0 rfl) ?_
  refine va_get (D := D) (ci := 7) (v := .ref sl) (C := RX8) (T := TX8) (N := 16) hx hb hts (fun _ h => List.mem_cons_of_mem _ (List.mem_append_right _ h)) hown hK hP 0 rfl rfl 0 (by decide) (hts (.fieldLink RX8 7 "WinterWalkModel" "slot" "[I") (List.mem_of_getElem? (i := 1) rfl)) (fun _ h9 => h9) rfl dX8_markOf_1 ?_
  refine lv_bipush (v := 20) hx hb dX8_markOf_4 (by decide) ?_
  refine lv_iload_n hx hb dX8_markOf_6 rfl (lv_at hl 1 rfl) ?_
  refine lv_iadd hx hb dX8_markOf_7 ?_
  refine lv_topi (fun x_1 ex_1 => ?_)
  have e_1 : x_1.toInt = 20 + v.toInt := by rw [ex_1]; exact zi_add (by decide) (rfl) (by omega) (by omega)
  clear ex_1
  refine va_iald hx hb hK hP 1 0 rfl rfl (zi_in (by omega) (by omega)) dX8_markOf_8 ?_
  refine lv_topi (fun x_2 ex_2 => ?_)
  obtain rfl : x_2 = 5 := ex_2.trans ((congrArg sf (show (x_1 : Int32).toNatClampNeg = 20 + v.toNatClampNeg from by have h9 := zi_cn (x := x_1) (by omega); have h8 := zi_cn (x := v) (by omega); omega)).trans h_kd)
  refine lv_iconst (v := 4) hx hb dX8_markOf_9 (by decide) ?_
  refine lv_icmp_ge (tgt := 19) hx hb dX8_markOf_10 (by decide) (fun _ => ?_) (fun c9 => absurd (by decide) c9)
  refine lv_aload_n hx hb dX8_markOf_19 rfl (lv_at hl 0 rfl) ?_
  refine lv_bipush (v := 23) hx hb dX8_markOf_20 (by decide) ?_
  have k_3 := (t_X8_begins_23_0 l D cI cB cQ s.heap.size h sl zs ln ir tk tb tr fz na su le fu ap pp nm trf (by omega) (by omega) (by omega) (by omega))
  refine wc_v (WC := [(h, .inr (7, [.ref sl, .int na, .ref zs, .ref ln, .ref ir, .ref tk, .int su, .int le, .ref tb, .int fu, .int ap, .int pp, .ref tr, .int 0, .ref fz, .int nm])), (tr, .inl (cI, 16, .inl trf))]) (WR := [(sl, .inl (cI, 1653, .inl sf))]) (va_runV (As := [.int 23]) (rest := []) ⟨hx, hb, hml, hown, hts⟩ k_3 (cwV 1 hts gX8_markOf_X8_begins rfl rfl rfl (by decide +kernel) ⟨Nat.le_of_ble_eq_true rfl, Nat.le_of_ble_eq_true rfl⟩) (wp_V hP hK hD hN [0, 2] (by decide) rfl (ci := 7) rfl rfl) rfl rfl hl.1 rfl (lv_room (Nat.le_of_ble_eq_true rfl)) dX8_markOf_22 ⟨Nat.le_of_ble_eq_true rfl, Nat.le_of_ble_eq_true rfl⟩) hP hD hS hA [0, 2] [1] rfl rfl (by decide) (by decide) (fun u_3 H locs hw_3 hP hD hS => ?_)
  clear k_3
  have hP : va_P D kl [(sl, .inl (cI, 1653, .inl sf)), (h, .inr (7, [.ref sl, .int na, .ref zs, .ref ln, .ref ir, .ref tk, .int su, .int le, .ref tb, .int fu, .int ap, .int pp, .ref tr, .int 1, .ref fz, .int nm])), (tr, .inl (cI, 16, .inl (upd trf (0 : Int32).toNatClampNeg 23)))] H := hP
  have hD : va_D A [(sl, .inl (cI, 1653, .inl sf)), (h, .inr (7, [.ref sl, .int na, .ref zs, .ref ln, .ref ir, .ref tk, .int su, .int le, .ref tb, .int fu, .int ap, .int pp, .ref tr, .int 1, .ref fz, .int nm])), (tr, .inl (cI, 16, .inl (upd trf (0 : Int32).toNatClampNeg 23)))] := hD
  clear hw_3
  refine lv_aload_n hx hb dX8_markOf_25 rfl (lv_at hl 0 rfl) ?_
  refine lv_iload_n hx hb dX8_markOf_26 rfl (lv_at hl 1 rfl) ?_
  have k_4 := (t_X8_mark20_0_1 l D cI cB cQ H.size h sl zs ln ir tk tb tr fz na su le fu ap pp nm v sf (upd trf (0 : Int32).toNatClampNeg 23) v0 hsi (by omega) (by omega) (by omega) (by omega) (by omega))
  refine wc_i (WC := [(h, .inr (7, [.ref sl, .int na, .ref zs, .ref ln, .ref ir, .ref tk, .int su, .int le, .ref tb, .int fu, .int ap, .int pp, .ref tr, .int 1, .ref fz, .int nm])), (sl, .inl (cI, 1653, .inl sf)), (tr, .inl (cI, 16, .inl (upd trf (0 : Int32).toNatClampNeg 23)))]) (WR := []) (va_runV (As := [.int v]) (rest := []) ⟨hx, hb, hml, hown, hts⟩ k_4 (cwV 1 hts gX8_markOf_X8_mark20 rfl rfl rfl (by decide +kernel) ⟨Nat.le_of_ble_eq_true rfl, Nat.le_of_ble_eq_true rfl⟩) (wp_V hP hK hD hN [1, 0, 2] (by decide) rfl (ci := 7) rfl rfl) rfl rfl hl.1 rfl (lv_room (Nat.le_of_ble_eq_true rfl)) dX8_markOf_27 ⟨Nat.le_of_ble_eq_true rfl, Nat.le_of_ble_eq_true rfl⟩) hP hD hS hA [1, 0, 2] [] rfl rfl (by decide) (by decide) (fun r_4 u_4 H locs hw_4 hP hD hS => ?_)
  clear k_4
  have hP : va_P D kl [(h, .inr (7, [.ref sl, .int na, .ref zs, .ref ln, .ref ir, .ref tk, .int su, .int le, .ref tb, .int fu, .int ap, .int pp, .ref tr, .int 2, .ref fz, .int nm])), (sl, .inl (cI, 1653, .inl sf)), (tr, .inl (cI, 16, .inl (upd (upd trf (0 : Int32).toNatClampNeg 23) (1 : Int32).toNatClampNeg 20)))] H := hP
  have hD : va_D A [(h, .inr (7, [.ref sl, .int na, .ref zs, .ref ln, .ref ir, .ref tk, .int su, .int le, .ref tb, .int fu, .int ap, .int pp, .ref tr, .int 2, .ref fz, .int nm])), (sl, .inl (cI, 1653, .inl sf)), (tr, .inl (cI, 16, .inl (upd (upd trf (0 : Int32).toNatClampNeg 23) (1 : Int32).toNatClampNeg 20)))] := hD
  clear hw_4
  refine lv_istore_n (lv' := [(2, .int r_4), (0, .ref h), (1, .int v)]) hx hb dX8_markOf_30 rfl hl (by decide) rfl (fun ls hl => ?_)
  refine lv_iload_n hx hb dX8_markOf_31 rfl (lv_at hl 0 rfl) ?_
  refine lv_aload_n hx hb dX8_markOf_32 rfl (lv_at hl 1 rfl) ?_
  refine lv_iload_n hx hb dX8_markOf_33 rfl (lv_at hl 2 rfl) ?_
  have k_5 := (t_X8_sizeOf_5_2 l D cI cB cQ H.size h sl zs ln ir tk tb tr fz na su le fu ap pp nm v sf (upd (upd trf (0 : Int32).toNatClampNeg 23) (1 : Int32).toNatClampNeg 20) v0 hsi (by omega) (by omega) (by omega) (by omega) (by omega) (h_kd))
  refine wc_i (WC := [(h, .inr (7, [.ref sl, .int na, .ref zs, .ref ln, .ref ir, .ref tk, .int su, .int le, .ref tb, .int fu, .int ap, .int pp, .ref tr, .int 2, .ref fz, .int nm])), (sl, .inl (cI, 1653, .inl sf)), (tr, .inl (cI, 16, .inl (upd (upd trf (0 : Int32).toNatClampNeg 23) (1 : Int32).toNatClampNeg 20)))]) (WR := []) (va_runV (As := [.int v]) (rest := [.int r_4]) ⟨hx, hb, hml, hown, hts⟩ k_5 (cwV 1 hts gX8_markOf_X8_sizeOf rfl rfl rfl (by decide +kernel) ⟨Nat.le_of_ble_eq_true rfl, Nat.le_of_ble_eq_true rfl⟩) (wp_V hP hK hD hN [0, 1, 2] (by decide) rfl (ci := 7) rfl rfl) rfl rfl hl.1 rfl (lv_room (Nat.le_of_ble_eq_true rfl)) dX8_markOf_34 ⟨Nat.le_of_ble_eq_true rfl, Nat.le_of_ble_eq_true rfl⟩) hP hD hS hA [0, 1, 2] [] rfl rfl (by decide) (by decide) (fun r_5 u_5 H locs hw_5 hP hD hS => ?_)
  clear k_5
  have hP : va_P D kl [(h, .inr (7, [.ref sl, .int na, .ref zs, .ref ln, .ref ir, .ref tk, .int su, .int le, .ref tb, .int fu, .int ap, .int pp, .ref tr, .int 5, .ref fz, .int nm])), (sl, .inl (cI, 1653, .inl sf)), (tr, .inl (cI, 16, .inl (upd (upd (upd (upd (upd trf (0 : Int32).toNatClampNeg 23) (1 : Int32).toNatClampNeg 20) (2 : Int32).toNatClampNeg 14) (3 : Int32).toNatClampNeg 13) (4 : Int32).toNatClampNeg 10)))] H := hP
  have hD : va_D A [(h, .inr (7, [.ref sl, .int na, .ref zs, .ref ln, .ref ir, .ref tk, .int su, .int le, .ref tb, .int fu, .int ap, .int pp, .ref tr, .int 5, .ref fz, .int nm])), (sl, .inl (cI, 1653, .inl sf)), (tr, .inl (cI, 16, .inl (upd (upd (upd (upd (upd trf (0 : Int32).toNatClampNeg 23) (1 : Int32).toNatClampNeg 20) (2 : Int32).toNatClampNeg 14) (3 : Int32).toNatClampNeg 13) (4 : Int32).toNatClampNeg 10)))] := hD
  clear hw_5
  refine lv_isub hx hb dX8_markOf_37 ?_
  refine lv_topi (fun x_6 ex_6 => ?_)
  clear ex_6
  exact wr_i (v := x_6) hx hb hr hlocks hS () (by trivial) (hP.sub [0, 1, 2] rfl) (hD.sub [0, 1, 2] (by decide) rfl) dX8_markOf_38
set_option maxHeartbeats 4000000 in
set_option maxRecDepth 100000 in
theorem t_X8_ask (l : Launch) (D : va_G) (cI cB cQ : ClassId) (sz : Nat) (h : Nat) (sl : Nat) (zs : Nat) (ln : Nat) (ir : Nat) (tk : Nat) (tb : Nat) (tr : Nat) (fz : Nat) (na : Int32) (su : Int32) (le : Int32) (fu : Int32) (ap : Int32) (pp : Int32) (tc : Int32) (nm : Int32) (v : Int32) (k : Int32) (sf : Nat → Int32) (trf : Nat → Int32) (v0 : Int) (hsi : SI sf v0) (h_na : 0 ≤ na.toInt ∧ na.toInt ≤ 24) (h_le : 0 ≤ le.toInt ∧ le.toInt ≤ 120) (h_ap : 0 ≤ ap.toInt ∧ ap.toInt ≤ 120) (h_tc : 0 ≤ tc.toInt ∧ tc.toInt ≤ 16) (h_pp : 0 ≤ pp.toInt ∧ pp.toInt ≤ 120) (h_k8 : ∀ j : Nat, (j : Int) < (sf 2).toInt → 1 ≤ (sf (20 + j)).toInt ∧ (sf (20 + j)).toInt ≤ 5) : mi l yX8_ask wsX8_ask ({ frames := 6, cells := 0, slots := 0, locals := 131 }) D cI cB cQ [.ref h, .int v, .int k] sz [(h, .inr (7, [.ref sl, .int na, .ref zs, .ref ln, .ref ir, .ref tk, .int su, .int le, .ref tb, .int fu, .int ap, .int pp, .ref tr, .int tc, .ref fz, .int nm])), (sl, .inl (cI, 1653, .inl sf)), (tr, .inl (cI, 16, .inl trf))] (fun (r : Int32) (u : Int32 × (Nat → Int32)) => (TRA ((0 ≤ v.toInt ∧ v.toInt < (sf 2).toInt) ∧ (0 ≤ k.toInt ∧ k.toInt ≤ 1)) (sf (20 + v.toNatClampNeg)).toInt k.toInt tc.toInt u.1.toInt trf u.2) ∧ (0 ≤ u.1.toInt ∧ u.1.toInt ≤ 16)) (fun u => [(h, .inr (7, [.ref sl, .int na, .ref zs, .ref ln, .ref ir, .ref tk, .int su, .int le, .ref tb, .int fu, .int ap, .int pp, .ref tr, .int u.1, .ref fz, .int nm])), (sl, .inl (cI, 1653, .inl sf)), (tr, .inl (cI, 16, .inl u.2))]) 0 0 := by
  refine wm_i (cc := cX8_ask) (maxL := 3) (ret := (some .int)) (by decide) rfl (Nat.le_of_ble_eq_true rfl) ?_
  intro p e s m below meth c A ls hx hb hr hml hown hts hlocks hin hP hK hD hN hA hl hS
  have hown : s.vm.findClass RX8 = some m.cls := hown
  have hl : lv_has ls 3 [(0, .ref h), (1, .int v), (2, .int k)] := hl
  change W p l e ({ frames := 6, cells := 0, slots := 0, locals := 131 }) s m ([.ref h, .int v, .int k] : List Value).toArray below meth c s.heap [] 0 0 (MQ below (va_Qi (fun (r : Int32) (u : Int32 × (Nat → Int32)) => (TRA ((0 ≤ v.toInt ∧ v.toInt < (sf 2).toInt) ∧ (0 ≤ k.toInt ∧ k.toInt ≤ 1)) (sf (20 + v.toNatClampNeg)).toInt k.toInt tc.toInt u.1.toInt trf u.2) ∧ (0 ≤ u.1.toInt ∧ u.1.toInt ≤ 16)) (fun u t => wb D A ((fun u => [(h, .inr (7, [.ref sl, .int na, .ref zs, .ref ln, .ref ir, .ref tk, .int su, .int le, .ref tb, .int fu, .int ap, .int pp, .ref tr, .int u.1, .ref fz, .int nm])), (sl, .inl (cI, 1653, .inl sf)), (tr, .inl (cI, 16, .inl u.2))]) u) t) A) ([.ref h, .int v, .int k] : List Value).toArray s 0 0 A) (F0 m 0 ls [])
  refine lv_aload_n hx hb dX8_ask_0 rfl (lv_at hl 0 rfl) ?_
  refine lv_iload_n hx hb dX8_ask_1 rfl (lv_at hl 1 rfl) ?_
  have k_1 := (f_X8_isWalkerThere l D cI cB cQ s.heap.size h sl zs ln ir tk tb tr fz na su le fu ap pp tc nm v sf v0 hsi)
  refine wc_i (WC := [(h, .inr (7, [.ref sl, .int na, .ref zs, .ref ln, .ref ir, .ref tk, .int su, .int le, .ref tb, .int fu, .int ap, .int pp, .ref tr, .int tc, .ref fz, .int nm])), (sl, .inl (cI, 1653, .inl sf))]) (WR := [(tr, .inl (cI, 16, .inl trf))]) (va_runV (As := [.int v]) (rest := []) ⟨hx, hb, hml, hown, hts⟩ k_1 (cwV 1 hts gX8_ask_X8_isWalkerThere rfl rfl rfl (by decide +kernel) ⟨Nat.le_of_ble_eq_true rfl, Nat.le_of_ble_eq_true rfl⟩) (wp_V hP hK hD hN [0, 1] (by decide) rfl (ci := 7) rfl rfl) rfl rfl hl.1 rfl (lv_room (Nat.le_of_ble_eq_true rfl)) dX8_ask_2 ⟨Nat.le_of_ble_eq_true rfl, Nat.le_of_ble_eq_true rfl⟩) hP hD hS hA [0, 1] [2] rfl rfl (by decide) (by decide) (fun r_1 u_1 H locs hw_1 hP hD hS => ?_)
  clear k_1
  have hP : va_P D kl [(tr, .inl (cI, 16, .inl trf)), (h, .inr (7, [.ref sl, .int na, .ref zs, .ref ln, .ref ir, .ref tk, .int su, .int le, .ref tb, .int fu, .int ap, .int pp, .ref tr, .int tc, .ref fz, .int nm])), (sl, .inl (cI, 1653, .inl sf))] H := hP
  have hD : va_D A [(tr, .inl (cI, 16, .inl trf)), (h, .inr (7, [.ref sl, .int na, .ref zs, .ref ln, .ref ir, .ref tk, .int su, .int le, .ref tb, .int fu, .int ap, .int pp, .ref tr, .int tc, .ref fz, .int nm])), (sl, .inl (cI, 1653, .inl sf))] := hD
  have c1_0 := hw_1
  rcases c1_0 with ⟨e_1, f_1⟩ | ⟨e_1, f_1⟩
  · subst e_1
    have f_1 : 0 ≤ v.toInt ∧ v.toInt ≤ 2 ∧ v.toInt < (sf 2).toInt := f_1
    refine lv_if_eq (tgt := 18) hx hb dX8_ask_5 (by decide) (fun c9 => absurd c9 (by decide)) (fun _ => ?_)
    refine lv_iload_n hx hb dX8_ask_8 rfl (lv_at hl 2 rfl) ?_
    refine lv_i2l (v := (k.toInt64)) hx hb dX8_ask_9 rfl ?_
    refine lv_lconst (v := 0) hx hb dX8_ask_10 (by decide) ?_
    refine lv_lconst (v := 1) hx hb dX8_ask_11 (by decide) ?_
    have k_2 := (g_X8_in l D cI cB cQ H.size (k.toInt64) 0 1)
    refine wc_i (WC := []) (WR := [(tr, .inl (cI, 16, .inl trf)), (h, .inr (7, [.ref sl, .int na, .ref zs, .ref ln, .ref ir, .ref tk, .int su, .int le, .ref tb, .int fu, .int ap, .int pp, .ref tr, .int tc, .ref fz, .int nm])), (sl, .inl (cI, 1653, .inl sf))]) (va_runS (As := [.long (k.toInt64), .long 0, .long 1]) (rest := []) ⟨hx, hb, hml, hown, hts⟩ k_2 (va_cwS 3 hts gX8_ask_X8_in rfl rfl rfl (by decide +kernel) ⟨Nat.le_of_ble_eq_true rfl, Nat.le_of_ble_eq_true rfl⟩) (wp_S hP hK hD hN [] (by decide) rfl) rfl rfl hl.1 rfl (lv_room (Nat.le_of_ble_eq_true rfl)) dX8_ask_12 ⟨Nat.le_of_ble_eq_true rfl, Nat.le_of_ble_eq_true rfl⟩) hP hD hS hA [] [0, 1, 2] rfl rfl (by decide) (by decide) (fun r_2 u_2 H locs hw_2 hP hD hS => ?_)
    clear k_2
    have hP : va_P D kl [(tr, .inl (cI, 16, .inl trf)), (h, .inr (7, [.ref sl, .int na, .ref zs, .ref ln, .ref ir, .ref tk, .int su, .int le, .ref tb, .int fu, .int ap, .int pp, .ref tr, .int tc, .ref fz, .int nm])), (sl, .inl (cI, 1653, .inl sf))] H := hP
    have hD : va_D A [(tr, .inl (cI, 16, .inl trf)), (h, .inr (7, [.ref sl, .int na, .ref zs, .ref ln, .ref ir, .ref tk, .int su, .int le, .ref tb, .int fu, .int ap, .int pp, .ref tr, .int tc, .ref fz, .int nm])), (sl, .inl (cI, 1653, .inl sf))] := hD
    have c2_0 := hw_2
    rcases c2_0 with ⟨e_2, f_2⟩ | ⟨e_2, f_2⟩
    · subst e_2
      have f_2 : (0 : Int) ≤ k.toInt ∧ k.toInt ≤ (1 : Int) := by
        have h8 := f_2
        try simp only [zl_of] at h8
        exact h8
      refine lv_if_ne (tgt := 21) hx hb dX8_ask_15 (by decide) (fun _ => ?_) (fun c9 => absurd c9 (by decide))
      refine lv_aload_n hx hb dX8_ask_21 rfl (lv_at hl 0 rfl) ?_
      refine lv_iconst (v := 0) hx hb dX8_ask_22 (by decide) ?_
      refine va_put (D := D) (ci := 7) (v := .int 0) (ty := .int) (C := RX8) (T := TX8) (N := 16) hx hb hts (fun _ h => List.mem_cons_of_mem _ (List.mem_append_right _ h)) tyX8 tyX8_ok nmX8 hown hK hP hD hS 1 rfl rfl 13 (by decide) (hts (.fieldLink RX8 208 "WinterWalkModel" "traced" "I") (List.mem_of_getElem? (i := 2) rfl)) (fun _ h9 => h9) rfl (by decide +kernel) rfl rfl (Nat.le_of_ble_eq_true rfl) dX8_ask_23 (fun H locs hP hD hS => ?_)
      have hP : va_P D kl [(tr, .inl (cI, 16, .inl trf)), (h, .inr (7, [.ref sl, .int na, .ref zs, .ref ln, .ref ir, .ref tk, .int su, .int le, .ref tb, .int fu, .int ap, .int pp, .ref tr, .int 0, .ref fz, .int nm])), (sl, .inl (cI, 1653, .inl sf))] H := hP
      have hD : va_D A [(tr, .inl (cI, 16, .inl trf)), (h, .inr (7, [.ref sl, .int na, .ref zs, .ref ln, .ref ir, .ref tk, .int su, .int le, .ref tb, .int fu, .int ap, .int pp, .ref tr, .int 0, .ref fz, .int nm])), (sl, .inl (cI, 1653, .inl sf))] := hD
      refine lv_iload_n hx hb dX8_ask_26 rfl (lv_at hl 2 rfl) ?_
      refine lv_if_ne (tgt := 38) hx hb dX8_ask_27 (by decide) (fun c_3 => ?_) (fun c_3 => ?_)
      · have f_3 : ¬ k.toInt = 0 := zi_ne c_3
        refine lv_aload_n hx hb dX8_ask_38 rfl (lv_at hl 0 rfl) ?_
        refine lv_iload_n hx hb dX8_ask_39 rfl (lv_at hl 1 rfl) ?_
        have hkk := h_k8 (v : Int32).toNatClampNeg (by have h9 := zi_cn (x := v) (by omega); omega)
        rcases (show (sf (20 + v.toNatClampNeg)).toInt = 1 ∨ (sf (20 + v.toNatClampNeg)).toInt = 2 ∨ (sf (20 + v.toNatClampNeg)).toInt = 3 ∨ (sf (20 + v.toNatClampNeg)).toInt = 4 ∨ (sf (20 + v.toNatClampNeg)).toInt = 5 by omega) with hs | hs | hs | hs | hs
        · have hkd : sf (20 + v.toNatClampNeg) = 1 := Int32.toInt_inj.mp (hs.trans (by decide))
          have k_4 := (t_X8_markOf_1_0 l D cI cB cQ H.size h sl zs ln ir tk tb tr fz na su le fu ap pp nm v sf trf v0 hsi (by omega) (by omega) (by omega) (by omega) (by omega) (hkd))
          refine wc_i (WC := [(h, .inr (7, [.ref sl, .int na, .ref zs, .ref ln, .ref ir, .ref tk, .int su, .int le, .ref tb, .int fu, .int ap, .int pp, .ref tr, .int 0, .ref fz, .int nm])), (sl, .inl (cI, 1653, .inl sf)), (tr, .inl (cI, 16, .inl trf))]) (WR := []) (va_runV (As := [.int v]) (rest := []) ⟨hx, hb, hml, hown, hts⟩ k_4 (cwV 1 hts gX8_ask_X8_markOf rfl rfl rfl (by decide +kernel) ⟨Nat.le_of_ble_eq_true rfl, Nat.le_of_ble_eq_true rfl⟩) (wp_V hP hK hD hN [1, 2, 0] (by decide) rfl (ci := 7) rfl rfl) rfl rfl hl.1 rfl (lv_room (Nat.le_of_ble_eq_true rfl)) dX8_ask_40 ⟨Nat.le_of_ble_eq_true rfl, Nat.le_of_ble_eq_true rfl⟩) hP hD hS hA [1, 2, 0] [] rfl rfl (by decide) (by decide) (fun r_4 u_4 H locs hw_4 hP hD hS => ?_)
          clear k_4
          have hP : va_P D kl [(h, .inr (7, [.ref sl, .int na, .ref zs, .ref ln, .ref ir, .ref tk, .int su, .int le, .ref tb, .int fu, .int ap, .int pp, .ref tr, .int 2, .ref fz, .int nm])), (sl, .inl (cI, 1653, .inl sf)), (tr, .inl (cI, 16, .inl (upd (upd trf (0 : Int32).toNatClampNeg 21) (1 : Int32).toNatClampNeg 20)))] H := hP
          have hD : va_D A [(h, .inr (7, [.ref sl, .int na, .ref zs, .ref ln, .ref ir, .ref tk, .int su, .int le, .ref tb, .int fu, .int ap, .int pp, .ref tr, .int 2, .ref fz, .int nm])), (sl, .inl (cI, 1653, .inl sf)), (tr, .inl (cI, 16, .inl (upd (upd trf (0 : Int32).toNatClampNeg 21) (1 : Int32).toNatClampNeg 20)))] := hD
          clear hw_4
          exact wr_i (v := r_4) hx hb hr hlocks hS (2, (upd (upd trf (0 : Int32).toNatClampNeg 21) (1 : Int32).toNatClampNeg 20)) (by exact ⟨show TRA ((0 ≤ v.toInt ∧ v.toInt < (sf 2).toInt) ∧ (0 ≤ k.toInt ∧ k.toInt ≤ 1)) (sf (20 + v.toNatClampNeg)).toInt k.toInt tc.toInt 2 trf (upd (upd trf (0 : Int32).toNatClampNeg 21) (1 : Int32).toNatClampNeg 20) from Or.inl ⟨by omega, TRL_mk (l := [21, 20]) (by rw [hs, show k.toInt = 1 from by omega]; first | rfl | decide) (by decide) (fun j hj => by have hj : j < 2 := hj; rcases (show j = 0 ∨ j = 1 by omega) with rfl | rfl <;> rfl)⟩, show 0 ≤ (2 : Int32).toInt ∧ (2 : Int32).toInt ≤ 16 from ⟨by decide, by decide⟩⟩) (hP.sub [0, 1, 2] rfl) (hD.sub [0, 1, 2] (by decide) rfl) dX8_ask_43
        · have hkd : sf (20 + v.toNatClampNeg) = 2 := Int32.toInt_inj.mp (hs.trans (by decide))
          have k_5 := (t_X8_markOf_2_0 l D cI cB cQ H.size h sl zs ln ir tk tb tr fz na su le fu ap pp nm v sf trf v0 hsi (by omega) (by omega) (by omega) (by omega) (by omega) (hkd))
          refine wc_i (WC := [(h, .inr (7, [.ref sl, .int na, .ref zs, .ref ln, .ref ir, .ref tk, .int su, .int le, .ref tb, .int fu, .int ap, .int pp, .ref tr, .int 0, .ref fz, .int nm])), (sl, .inl (cI, 1653, .inl sf)), (tr, .inl (cI, 16, .inl trf))]) (WR := []) (va_runV (As := [.int v]) (rest := []) ⟨hx, hb, hml, hown, hts⟩ k_5 (cwV 1 hts gX8_ask_X8_markOf rfl rfl rfl (by decide +kernel) ⟨Nat.le_of_ble_eq_true rfl, Nat.le_of_ble_eq_true rfl⟩) (wp_V hP hK hD hN [1, 2, 0] (by decide) rfl (ci := 7) rfl rfl) rfl rfl hl.1 rfl (lv_room (Nat.le_of_ble_eq_true rfl)) dX8_ask_40 ⟨Nat.le_of_ble_eq_true rfl, Nat.le_of_ble_eq_true rfl⟩) hP hD hS hA [1, 2, 0] [] rfl rfl (by decide) (by decide) (fun r_5 u_5 H locs hw_5 hP hD hS => ?_)
          clear k_5
          have hP : va_P D kl [(h, .inr (7, [.ref sl, .int na, .ref zs, .ref ln, .ref ir, .ref tk, .int su, .int le, .ref tb, .int fu, .int ap, .int pp, .ref tr, .int 3, .ref fz, .int nm])), (sl, .inl (cI, 1653, .inl sf)), (tr, .inl (cI, 16, .inl (upd (upd (upd trf (0 : Int32).toNatClampNeg 24) (1 : Int32).toNatClampNeg 21) (2 : Int32).toNatClampNeg 20)))] H := hP
          have hD : va_D A [(h, .inr (7, [.ref sl, .int na, .ref zs, .ref ln, .ref ir, .ref tk, .int su, .int le, .ref tb, .int fu, .int ap, .int pp, .ref tr, .int 3, .ref fz, .int nm])), (sl, .inl (cI, 1653, .inl sf)), (tr, .inl (cI, 16, .inl (upd (upd (upd trf (0 : Int32).toNatClampNeg 24) (1 : Int32).toNatClampNeg 21) (2 : Int32).toNatClampNeg 20)))] := hD
          clear hw_5
          exact wr_i (v := r_5) hx hb hr hlocks hS (3, (upd (upd (upd trf (0 : Int32).toNatClampNeg 24) (1 : Int32).toNatClampNeg 21) (2 : Int32).toNatClampNeg 20)) (by exact ⟨show TRA ((0 ≤ v.toInt ∧ v.toInt < (sf 2).toInt) ∧ (0 ≤ k.toInt ∧ k.toInt ≤ 1)) (sf (20 + v.toNatClampNeg)).toInt k.toInt tc.toInt 3 trf (upd (upd (upd trf (0 : Int32).toNatClampNeg 24) (1 : Int32).toNatClampNeg 21) (2 : Int32).toNatClampNeg 20) from Or.inl ⟨by omega, TRL_mk (l := [24, 21, 20]) (by rw [hs, show k.toInt = 1 from by omega]; first | rfl | decide) (by decide) (fun j hj => by have hj : j < 3 := hj; rcases (show j = 0 ∨ j = 1 ∨ j = 2 by omega) with rfl | rfl | rfl <;> rfl)⟩, show 0 ≤ (3 : Int32).toInt ∧ (3 : Int32).toInt ≤ 16 from ⟨by decide, by decide⟩⟩) (hP.sub [0, 1, 2] rfl) (hD.sub [0, 1, 2] (by decide) rfl) dX8_ask_43
        · have hkd : sf (20 + v.toNatClampNeg) = 3 := Int32.toInt_inj.mp (hs.trans (by decide))
          have k_6 := (t_X8_markOf_3_0 l D cI cB cQ H.size h sl zs ln ir tk tb tr fz na su le fu ap pp nm v sf trf v0 hsi (by omega) (by omega) (by omega) (by omega) (by omega) (hkd))
          refine wc_i (WC := [(h, .inr (7, [.ref sl, .int na, .ref zs, .ref ln, .ref ir, .ref tk, .int su, .int le, .ref tb, .int fu, .int ap, .int pp, .ref tr, .int 0, .ref fz, .int nm])), (sl, .inl (cI, 1653, .inl sf)), (tr, .inl (cI, 16, .inl trf))]) (WR := []) (va_runV (As := [.int v]) (rest := []) ⟨hx, hb, hml, hown, hts⟩ k_6 (cwV 1 hts gX8_ask_X8_markOf rfl rfl rfl (by decide +kernel) ⟨Nat.le_of_ble_eq_true rfl, Nat.le_of_ble_eq_true rfl⟩) (wp_V hP hK hD hN [1, 2, 0] (by decide) rfl (ci := 7) rfl rfl) rfl rfl hl.1 rfl (lv_room (Nat.le_of_ble_eq_true rfl)) dX8_ask_40 ⟨Nat.le_of_ble_eq_true rfl, Nat.le_of_ble_eq_true rfl⟩) hP hD hS hA [1, 2, 0] [] rfl rfl (by decide) (by decide) (fun r_6 u_6 H locs hw_6 hP hD hS => ?_)
          clear k_6
          have hP : va_P D kl [(h, .inr (7, [.ref sl, .int na, .ref zs, .ref ln, .ref ir, .ref tk, .int su, .int le, .ref tb, .int fu, .int ap, .int pp, .ref tr, .int 3, .ref fz, .int nm])), (sl, .inl (cI, 1653, .inl sf)), (tr, .inl (cI, 16, .inl (upd (upd (upd trf (0 : Int32).toNatClampNeg 22) (1 : Int32).toNatClampNeg 21) (2 : Int32).toNatClampNeg 20)))] H := hP
          have hD : va_D A [(h, .inr (7, [.ref sl, .int na, .ref zs, .ref ln, .ref ir, .ref tk, .int su, .int le, .ref tb, .int fu, .int ap, .int pp, .ref tr, .int 3, .ref fz, .int nm])), (sl, .inl (cI, 1653, .inl sf)), (tr, .inl (cI, 16, .inl (upd (upd (upd trf (0 : Int32).toNatClampNeg 22) (1 : Int32).toNatClampNeg 21) (2 : Int32).toNatClampNeg 20)))] := hD
          clear hw_6
          exact wr_i (v := r_6) hx hb hr hlocks hS (3, (upd (upd (upd trf (0 : Int32).toNatClampNeg 22) (1 : Int32).toNatClampNeg 21) (2 : Int32).toNatClampNeg 20)) (by exact ⟨show TRA ((0 ≤ v.toInt ∧ v.toInt < (sf 2).toInt) ∧ (0 ≤ k.toInt ∧ k.toInt ≤ 1)) (sf (20 + v.toNatClampNeg)).toInt k.toInt tc.toInt 3 trf (upd (upd (upd trf (0 : Int32).toNatClampNeg 22) (1 : Int32).toNatClampNeg 21) (2 : Int32).toNatClampNeg 20) from Or.inl ⟨by omega, TRL_mk (l := [22, 21, 20]) (by rw [hs, show k.toInt = 1 from by omega]; first | rfl | decide) (by decide) (fun j hj => by have hj : j < 3 := hj; rcases (show j = 0 ∨ j = 1 ∨ j = 2 by omega) with rfl | rfl | rfl <;> rfl)⟩, show 0 ≤ (3 : Int32).toInt ∧ (3 : Int32).toInt ≤ 16 from ⟨by decide, by decide⟩⟩) (hP.sub [0, 1, 2] rfl) (hD.sub [0, 1, 2] (by decide) rfl) dX8_ask_43
        · have hkd : sf (20 + v.toNatClampNeg) = 4 := Int32.toInt_inj.mp (hs.trans (by decide))
          have k_7 := (t_X8_markOf_4_0 l D cI cB cQ H.size h sl zs ln ir tk tb tr fz na su le fu ap pp nm v sf trf v0 hsi (by omega) (by omega) (by omega) (by omega) (by omega) (hkd))
          refine wc_i (WC := [(h, .inr (7, [.ref sl, .int na, .ref zs, .ref ln, .ref ir, .ref tk, .int su, .int le, .ref tb, .int fu, .int ap, .int pp, .ref tr, .int 0, .ref fz, .int nm])), (sl, .inl (cI, 1653, .inl sf)), (tr, .inl (cI, 16, .inl trf))]) (WR := []) (va_runV (As := [.int v]) (rest := []) ⟨hx, hb, hml, hown, hts⟩ k_7 (cwV 1 hts gX8_ask_X8_markOf rfl rfl rfl (by decide +kernel) ⟨Nat.le_of_ble_eq_true rfl, Nat.le_of_ble_eq_true rfl⟩) (wp_V hP hK hD hN [1, 2, 0] (by decide) rfl (ci := 7) rfl rfl) rfl rfl hl.1 rfl (lv_room (Nat.le_of_ble_eq_true rfl)) dX8_ask_40 ⟨Nat.le_of_ble_eq_true rfl, Nat.le_of_ble_eq_true rfl⟩) hP hD hS hA [1, 2, 0] [] rfl rfl (by decide) (by decide) (fun r_7 u_7 H locs hw_7 hP hD hS => ?_)
          clear k_7
          have hP : va_P D kl [(h, .inr (7, [.ref sl, .int na, .ref zs, .ref ln, .ref ir, .ref tk, .int su, .int le, .ref tb, .int fu, .int ap, .int pp, .ref tr, .int 4, .ref fz, .int nm])), (sl, .inl (cI, 1653, .inl sf)), (tr, .inl (cI, 16, .inl (upd (upd (upd (upd trf (0 : Int32).toNatClampNeg 23) (1 : Int32).toNatClampNeg 20) (2 : Int32).toNatClampNeg 13) (3 : Int32).toNatClampNeg 10)))] H := hP
          have hD : va_D A [(h, .inr (7, [.ref sl, .int na, .ref zs, .ref ln, .ref ir, .ref tk, .int su, .int le, .ref tb, .int fu, .int ap, .int pp, .ref tr, .int 4, .ref fz, .int nm])), (sl, .inl (cI, 1653, .inl sf)), (tr, .inl (cI, 16, .inl (upd (upd (upd (upd trf (0 : Int32).toNatClampNeg 23) (1 : Int32).toNatClampNeg 20) (2 : Int32).toNatClampNeg 13) (3 : Int32).toNatClampNeg 10)))] := hD
          clear hw_7
          exact wr_i (v := r_7) hx hb hr hlocks hS (4, (upd (upd (upd (upd trf (0 : Int32).toNatClampNeg 23) (1 : Int32).toNatClampNeg 20) (2 : Int32).toNatClampNeg 13) (3 : Int32).toNatClampNeg 10)) (by exact ⟨show TRA ((0 ≤ v.toInt ∧ v.toInt < (sf 2).toInt) ∧ (0 ≤ k.toInt ∧ k.toInt ≤ 1)) (sf (20 + v.toNatClampNeg)).toInt k.toInt tc.toInt 4 trf (upd (upd (upd (upd trf (0 : Int32).toNatClampNeg 23) (1 : Int32).toNatClampNeg 20) (2 : Int32).toNatClampNeg 13) (3 : Int32).toNatClampNeg 10) from Or.inl ⟨by omega, TRL_mk (l := [23, 20, 13, 10]) (by rw [hs, show k.toInt = 1 from by omega]; first | rfl | decide) (by decide) (fun j hj => by have hj : j < 4 := hj; rcases (show j = 0 ∨ j = 1 ∨ j = 2 ∨ j = 3 by omega) with rfl | rfl | rfl | rfl <;> rfl)⟩, show 0 ≤ (4 : Int32).toInt ∧ (4 : Int32).toInt ≤ 16 from ⟨by decide, by decide⟩⟩) (hP.sub [0, 1, 2] rfl) (hD.sub [0, 1, 2] (by decide) rfl) dX8_ask_43
        · have hkd : sf (20 + v.toNatClampNeg) = 5 := Int32.toInt_inj.mp (hs.trans (by decide))
          have k_8 := (t_X8_markOf_5_0 l D cI cB cQ H.size h sl zs ln ir tk tb tr fz na su le fu ap pp nm v sf trf v0 hsi (by omega) (by omega) (by omega) (by omega) (by omega) (hkd))
          refine wc_i (WC := [(h, .inr (7, [.ref sl, .int na, .ref zs, .ref ln, .ref ir, .ref tk, .int su, .int le, .ref tb, .int fu, .int ap, .int pp, .ref tr, .int 0, .ref fz, .int nm])), (sl, .inl (cI, 1653, .inl sf)), (tr, .inl (cI, 16, .inl trf))]) (WR := []) (va_runV (As := [.int v]) (rest := []) ⟨hx, hb, hml, hown, hts⟩ k_8 (cwV 1 hts gX8_ask_X8_markOf rfl rfl rfl (by decide +kernel) ⟨Nat.le_of_ble_eq_true rfl, Nat.le_of_ble_eq_true rfl⟩) (wp_V hP hK hD hN [1, 2, 0] (by decide) rfl (ci := 7) rfl rfl) rfl rfl hl.1 rfl (lv_room (Nat.le_of_ble_eq_true rfl)) dX8_ask_40 ⟨Nat.le_of_ble_eq_true rfl, Nat.le_of_ble_eq_true rfl⟩) hP hD hS hA [1, 2, 0] [] rfl rfl (by decide) (by decide) (fun r_8 u_8 H locs hw_8 hP hD hS => ?_)
          clear k_8
          have hP : va_P D kl [(h, .inr (7, [.ref sl, .int na, .ref zs, .ref ln, .ref ir, .ref tk, .int su, .int le, .ref tb, .int fu, .int ap, .int pp, .ref tr, .int 5, .ref fz, .int nm])), (sl, .inl (cI, 1653, .inl sf)), (tr, .inl (cI, 16, .inl (upd (upd (upd (upd (upd trf (0 : Int32).toNatClampNeg 23) (1 : Int32).toNatClampNeg 20) (2 : Int32).toNatClampNeg 14) (3 : Int32).toNatClampNeg 13) (4 : Int32).toNatClampNeg 10)))] H := hP
          have hD : va_D A [(h, .inr (7, [.ref sl, .int na, .ref zs, .ref ln, .ref ir, .ref tk, .int su, .int le, .ref tb, .int fu, .int ap, .int pp, .ref tr, .int 5, .ref fz, .int nm])), (sl, .inl (cI, 1653, .inl sf)), (tr, .inl (cI, 16, .inl (upd (upd (upd (upd (upd trf (0 : Int32).toNatClampNeg 23) (1 : Int32).toNatClampNeg 20) (2 : Int32).toNatClampNeg 14) (3 : Int32).toNatClampNeg 13) (4 : Int32).toNatClampNeg 10)))] := hD
          clear hw_8
          exact wr_i (v := r_8) hx hb hr hlocks hS (5, (upd (upd (upd (upd (upd trf (0 : Int32).toNatClampNeg 23) (1 : Int32).toNatClampNeg 20) (2 : Int32).toNatClampNeg 14) (3 : Int32).toNatClampNeg 13) (4 : Int32).toNatClampNeg 10)) (by exact ⟨show TRA ((0 ≤ v.toInt ∧ v.toInt < (sf 2).toInt) ∧ (0 ≤ k.toInt ∧ k.toInt ≤ 1)) (sf (20 + v.toNatClampNeg)).toInt k.toInt tc.toInt 5 trf (upd (upd (upd (upd (upd trf (0 : Int32).toNatClampNeg 23) (1 : Int32).toNatClampNeg 20) (2 : Int32).toNatClampNeg 14) (3 : Int32).toNatClampNeg 13) (4 : Int32).toNatClampNeg 10) from Or.inl ⟨by omega, TRL_mk (l := [23, 20, 14, 13, 10]) (by rw [hs, show k.toInt = 1 from by omega]; first | rfl | decide) (by decide) (fun j hj => by have hj : j < 5 := hj; rcases (show j = 0 ∨ j = 1 ∨ j = 2 ∨ j = 3 ∨ j = 4 by omega) with rfl | rfl | rfl | rfl | rfl <;> rfl)⟩, show 0 ≤ (5 : Int32).toInt ∧ (5 : Int32).toInt ≤ 16 from ⟨by decide, by decide⟩⟩) (hP.sub [0, 1, 2] rfl) (hD.sub [0, 1, 2] (by decide) rfl) dX8_ask_43
      · have f_3 : k.toInt = 0 := zi_eq c_3
        refine lv_aload_n hx hb dX8_ask_30 rfl (lv_at hl 0 rfl) ?_
        refine lv_iload_n hx hb dX8_ask_31 rfl (lv_at hl 1 rfl) ?_
        have hkk := h_k8 (v : Int32).toNatClampNeg (by have h9 := zi_cn (x := v) (by omega); omega)
        rcases (show (sf (20 + v.toNatClampNeg)).toInt = 1 ∨ (sf (20 + v.toNatClampNeg)).toInt = 2 ∨ (sf (20 + v.toNatClampNeg)).toInt = 3 ∨ (sf (20 + v.toNatClampNeg)).toInt = 4 ∨ (sf (20 + v.toNatClampNeg)).toInt = 5 by omega) with hs | hs | hs | hs | hs
        · have hkd : sf (20 + v.toNatClampNeg) = 1 := Int32.toInt_inj.mp (hs.trans (by decide))
          have k_9 := (t_X8_sizeOf_1_0 l D cI cB cQ H.size h sl zs ln ir tk tb tr fz na su le fu ap pp nm v sf trf v0 hsi (by omega) (by omega) (by omega) (by omega) (by omega) (hkd))
          refine wc_i (WC := [(h, .inr (7, [.ref sl, .int na, .ref zs, .ref ln, .ref ir, .ref tk, .int su, .int le, .ref tb, .int fu, .int ap, .int pp, .ref tr, .int 0, .ref fz, .int nm])), (sl, .inl (cI, 1653, .inl sf)), (tr, .inl (cI, 16, .inl trf))]) (WR := []) (va_runV (As := [.int v]) (rest := []) ⟨hx, hb, hml, hown, hts⟩ k_9 (cwV 1 hts gX8_ask_X8_sizeOf rfl rfl rfl (by decide +kernel) ⟨Nat.le_of_ble_eq_true rfl, Nat.le_of_ble_eq_true rfl⟩) (wp_V hP hK hD hN [1, 2, 0] (by decide) rfl (ci := 7) rfl rfl) rfl rfl hl.1 rfl (lv_room (Nat.le_of_ble_eq_true rfl)) dX8_ask_32 ⟨Nat.le_of_ble_eq_true rfl, Nat.le_of_ble_eq_true rfl⟩) hP hD hS hA [1, 2, 0] [] rfl rfl (by decide) (by decide) (fun r_9 u_9 H locs hw_9 hP hD hS => ?_)
          clear k_9
          have hP : va_P D kl [(h, .inr (7, [.ref sl, .int na, .ref zs, .ref ln, .ref ir, .ref tk, .int su, .int le, .ref tb, .int fu, .int ap, .int pp, .ref tr, .int 4, .ref fz, .int nm])), (sl, .inl (cI, 1653, .inl sf)), (tr, .inl (cI, 16, .inl (upd (upd (upd (upd trf (0 : Int32).toNatClampNeg 11) (1 : Int32).toNatClampNeg 10) (2 : Int32).toNatClampNeg 21) (3 : Int32).toNatClampNeg 20)))] H := hP
          have hD : va_D A [(h, .inr (7, [.ref sl, .int na, .ref zs, .ref ln, .ref ir, .ref tk, .int su, .int le, .ref tb, .int fu, .int ap, .int pp, .ref tr, .int 4, .ref fz, .int nm])), (sl, .inl (cI, 1653, .inl sf)), (tr, .inl (cI, 16, .inl (upd (upd (upd (upd trf (0 : Int32).toNatClampNeg 11) (1 : Int32).toNatClampNeg 10) (2 : Int32).toNatClampNeg 21) (3 : Int32).toNatClampNeg 20)))] := hD
          clear hw_9
          refine lv_goto (tgt := 43) hx hb dX8_ask_35 (by decide) ?_
          exact wr_i (v := r_9) hx hb hr hlocks hS (4, (upd (upd (upd (upd trf (0 : Int32).toNatClampNeg 11) (1 : Int32).toNatClampNeg 10) (2 : Int32).toNatClampNeg 21) (3 : Int32).toNatClampNeg 20)) (by exact ⟨show TRA ((0 ≤ v.toInt ∧ v.toInt < (sf 2).toInt) ∧ (0 ≤ k.toInt ∧ k.toInt ≤ 1)) (sf (20 + v.toNatClampNeg)).toInt k.toInt tc.toInt 4 trf (upd (upd (upd (upd trf (0 : Int32).toNatClampNeg 11) (1 : Int32).toNatClampNeg 10) (2 : Int32).toNatClampNeg 21) (3 : Int32).toNatClampNeg 20) from Or.inl ⟨by omega, TRL_mk (l := [11, 10, 21, 20]) (by rw [hs, show k.toInt = 0 from by omega]; first | rfl | decide) (by decide) (fun j hj => by have hj : j < 4 := hj; rcases (show j = 0 ∨ j = 1 ∨ j = 2 ∨ j = 3 by omega) with rfl | rfl | rfl | rfl <;> rfl)⟩, show 0 ≤ (4 : Int32).toInt ∧ (4 : Int32).toInt ≤ 16 from ⟨by decide, by decide⟩⟩) (hP.sub [0, 1, 2] rfl) (hD.sub [0, 1, 2] (by decide) rfl) dX8_ask_43
        · have hkd : sf (20 + v.toNatClampNeg) = 2 := Int32.toInt_inj.mp (hs.trans (by decide))
          have k_10 := (t_X8_sizeOf_2_0 l D cI cB cQ H.size h sl zs ln ir tk tb tr fz na su le fu ap pp nm v sf trf v0 hsi (by omega) (by omega) (by omega) (by omega) (by omega) (hkd))
          refine wc_i (WC := [(h, .inr (7, [.ref sl, .int na, .ref zs, .ref ln, .ref ir, .ref tk, .int su, .int le, .ref tb, .int fu, .int ap, .int pp, .ref tr, .int 0, .ref fz, .int nm])), (sl, .inl (cI, 1653, .inl sf)), (tr, .inl (cI, 16, .inl trf))]) (WR := []) (va_runV (As := [.int v]) (rest := []) ⟨hx, hb, hml, hown, hts⟩ k_10 (cwV 1 hts gX8_ask_X8_sizeOf rfl rfl rfl (by decide +kernel) ⟨Nat.le_of_ble_eq_true rfl, Nat.le_of_ble_eq_true rfl⟩) (wp_V hP hK hD hN [1, 2, 0] (by decide) rfl (ci := 7) rfl rfl) rfl rfl hl.1 rfl (lv_room (Nat.le_of_ble_eq_true rfl)) dX8_ask_32 ⟨Nat.le_of_ble_eq_true rfl, Nat.le_of_ble_eq_true rfl⟩) hP hD hS hA [1, 2, 0] [] rfl rfl (by decide) (by decide) (fun r_10 u_10 H locs hw_10 hP hD hS => ?_)
          clear k_10
          have hP : va_P D kl [(h, .inr (7, [.ref sl, .int na, .ref zs, .ref ln, .ref ir, .ref tk, .int su, .int le, .ref tb, .int fu, .int ap, .int pp, .ref tr, .int 6, .ref fz, .int nm])), (sl, .inl (cI, 1653, .inl sf)), (tr, .inl (cI, 16, .inl (upd (upd (upd (upd (upd (upd trf (0 : Int32).toNatClampNeg 12) (1 : Int32).toNatClampNeg 11) (2 : Int32).toNatClampNeg 10) (3 : Int32).toNatClampNeg 24) (4 : Int32).toNatClampNeg 21) (5 : Int32).toNatClampNeg 20)))] H := hP
          have hD : va_D A [(h, .inr (7, [.ref sl, .int na, .ref zs, .ref ln, .ref ir, .ref tk, .int su, .int le, .ref tb, .int fu, .int ap, .int pp, .ref tr, .int 6, .ref fz, .int nm])), (sl, .inl (cI, 1653, .inl sf)), (tr, .inl (cI, 16, .inl (upd (upd (upd (upd (upd (upd trf (0 : Int32).toNatClampNeg 12) (1 : Int32).toNatClampNeg 11) (2 : Int32).toNatClampNeg 10) (3 : Int32).toNatClampNeg 24) (4 : Int32).toNatClampNeg 21) (5 : Int32).toNatClampNeg 20)))] := hD
          clear hw_10
          refine lv_goto (tgt := 43) hx hb dX8_ask_35 (by decide) ?_
          exact wr_i (v := r_10) hx hb hr hlocks hS (6, (upd (upd (upd (upd (upd (upd trf (0 : Int32).toNatClampNeg 12) (1 : Int32).toNatClampNeg 11) (2 : Int32).toNatClampNeg 10) (3 : Int32).toNatClampNeg 24) (4 : Int32).toNatClampNeg 21) (5 : Int32).toNatClampNeg 20)) (by exact ⟨show TRA ((0 ≤ v.toInt ∧ v.toInt < (sf 2).toInt) ∧ (0 ≤ k.toInt ∧ k.toInt ≤ 1)) (sf (20 + v.toNatClampNeg)).toInt k.toInt tc.toInt 6 trf (upd (upd (upd (upd (upd (upd trf (0 : Int32).toNatClampNeg 12) (1 : Int32).toNatClampNeg 11) (2 : Int32).toNatClampNeg 10) (3 : Int32).toNatClampNeg 24) (4 : Int32).toNatClampNeg 21) (5 : Int32).toNatClampNeg 20) from Or.inl ⟨by omega, TRL_mk (l := [12, 11, 10, 24, 21, 20]) (by rw [hs, show k.toInt = 0 from by omega]; first | rfl | decide) (by decide) (fun j hj => by have hj : j < 6 := hj; rcases (show j = 0 ∨ j = 1 ∨ j = 2 ∨ j = 3 ∨ j = 4 ∨ j = 5 by omega) with rfl | rfl | rfl | rfl | rfl | rfl <;> rfl)⟩, show 0 ≤ (6 : Int32).toInt ∧ (6 : Int32).toInt ≤ 16 from ⟨by decide, by decide⟩⟩) (hP.sub [0, 1, 2] rfl) (hD.sub [0, 1, 2] (by decide) rfl) dX8_ask_43
        · have hkd : sf (20 + v.toNatClampNeg) = 3 := Int32.toInt_inj.mp (hs.trans (by decide))
          have k_11 := (t_X8_sizeOf_3_0 l D cI cB cQ H.size h sl zs ln ir tk tb tr fz na su le fu ap pp nm v sf trf v0 hsi (by omega) (by omega) (by omega) (by omega) (by omega) (hkd))
          refine wc_i (WC := [(h, .inr (7, [.ref sl, .int na, .ref zs, .ref ln, .ref ir, .ref tk, .int su, .int le, .ref tb, .int fu, .int ap, .int pp, .ref tr, .int 0, .ref fz, .int nm])), (sl, .inl (cI, 1653, .inl sf)), (tr, .inl (cI, 16, .inl trf))]) (WR := []) (va_runV (As := [.int v]) (rest := []) ⟨hx, hb, hml, hown, hts⟩ k_11 (cwV 1 hts gX8_ask_X8_sizeOf rfl rfl rfl (by decide +kernel) ⟨Nat.le_of_ble_eq_true rfl, Nat.le_of_ble_eq_true rfl⟩) (wp_V hP hK hD hN [1, 2, 0] (by decide) rfl (ci := 7) rfl rfl) rfl rfl hl.1 rfl (lv_room (Nat.le_of_ble_eq_true rfl)) dX8_ask_32 ⟨Nat.le_of_ble_eq_true rfl, Nat.le_of_ble_eq_true rfl⟩) hP hD hS hA [1, 2, 0] [] rfl rfl (by decide) (by decide) (fun r_11 u_11 H locs hw_11 hP hD hS => ?_)
          clear k_11
          have hP : va_P D kl [(h, .inr (7, [.ref sl, .int na, .ref zs, .ref ln, .ref ir, .ref tk, .int su, .int le, .ref tb, .int fu, .int ap, .int pp, .ref tr, .int 5, .ref fz, .int nm])), (sl, .inl (cI, 1653, .inl sf)), (tr, .inl (cI, 16, .inl (upd (upd (upd (upd (upd trf (0 : Int32).toNatClampNeg 11) (1 : Int32).toNatClampNeg 10) (2 : Int32).toNatClampNeg 22) (3 : Int32).toNatClampNeg 21) (4 : Int32).toNatClampNeg 20)))] H := hP
          have hD : va_D A [(h, .inr (7, [.ref sl, .int na, .ref zs, .ref ln, .ref ir, .ref tk, .int su, .int le, .ref tb, .int fu, .int ap, .int pp, .ref tr, .int 5, .ref fz, .int nm])), (sl, .inl (cI, 1653, .inl sf)), (tr, .inl (cI, 16, .inl (upd (upd (upd (upd (upd trf (0 : Int32).toNatClampNeg 11) (1 : Int32).toNatClampNeg 10) (2 : Int32).toNatClampNeg 22) (3 : Int32).toNatClampNeg 21) (4 : Int32).toNatClampNeg 20)))] := hD
          clear hw_11
          refine lv_goto (tgt := 43) hx hb dX8_ask_35 (by decide) ?_
          exact wr_i (v := r_11) hx hb hr hlocks hS (5, (upd (upd (upd (upd (upd trf (0 : Int32).toNatClampNeg 11) (1 : Int32).toNatClampNeg 10) (2 : Int32).toNatClampNeg 22) (3 : Int32).toNatClampNeg 21) (4 : Int32).toNatClampNeg 20)) (by exact ⟨show TRA ((0 ≤ v.toInt ∧ v.toInt < (sf 2).toInt) ∧ (0 ≤ k.toInt ∧ k.toInt ≤ 1)) (sf (20 + v.toNatClampNeg)).toInt k.toInt tc.toInt 5 trf (upd (upd (upd (upd (upd trf (0 : Int32).toNatClampNeg 11) (1 : Int32).toNatClampNeg 10) (2 : Int32).toNatClampNeg 22) (3 : Int32).toNatClampNeg 21) (4 : Int32).toNatClampNeg 20) from Or.inl ⟨by omega, TRL_mk (l := [11, 10, 22, 21, 20]) (by rw [hs, show k.toInt = 0 from by omega]; first | rfl | decide) (by decide) (fun j hj => by have hj : j < 5 := hj; rcases (show j = 0 ∨ j = 1 ∨ j = 2 ∨ j = 3 ∨ j = 4 by omega) with rfl | rfl | rfl | rfl | rfl <;> rfl)⟩, show 0 ≤ (5 : Int32).toInt ∧ (5 : Int32).toInt ≤ 16 from ⟨by decide, by decide⟩⟩) (hP.sub [0, 1, 2] rfl) (hD.sub [0, 1, 2] (by decide) rfl) dX8_ask_43
        · have hkd : sf (20 + v.toNatClampNeg) = 4 := Int32.toInt_inj.mp (hs.trans (by decide))
          have k_12 := (t_X8_sizeOf_4_0 l D cI cB cQ H.size h sl zs ln ir tk tb tr fz na su le fu ap pp nm v sf trf v0 hsi (by omega) (by omega) (by omega) (by omega) (by omega) (hkd))
          refine wc_i (WC := [(h, .inr (7, [.ref sl, .int na, .ref zs, .ref ln, .ref ir, .ref tk, .int su, .int le, .ref tb, .int fu, .int ap, .int pp, .ref tr, .int 0, .ref fz, .int nm])), (sl, .inl (cI, 1653, .inl sf)), (tr, .inl (cI, 16, .inl trf))]) (WR := []) (va_runV (As := [.int v]) (rest := []) ⟨hx, hb, hml, hown, hts⟩ k_12 (cwV 1 hts gX8_ask_X8_sizeOf rfl rfl rfl (by decide +kernel) ⟨Nat.le_of_ble_eq_true rfl, Nat.le_of_ble_eq_true rfl⟩) (wp_V hP hK hD hN [1, 2, 0] (by decide) rfl (ci := 7) rfl rfl) rfl rfl hl.1 rfl (lv_room (Nat.le_of_ble_eq_true rfl)) dX8_ask_32 ⟨Nat.le_of_ble_eq_true rfl, Nat.le_of_ble_eq_true rfl⟩) hP hD hS hA [1, 2, 0] [] rfl rfl (by decide) (by decide) (fun r_12 u_12 H locs hw_12 hP hD hS => ?_)
          clear k_12
          have hP : va_P D kl [(h, .inr (7, [.ref sl, .int na, .ref zs, .ref ln, .ref ir, .ref tk, .int su, .int le, .ref tb, .int fu, .int ap, .int pp, .ref tr, .int 2, .ref fz, .int nm])), (sl, .inl (cI, 1653, .inl sf)), (tr, .inl (cI, 16, .inl (upd (upd trf (0 : Int32).toNatClampNeg 13) (1 : Int32).toNatClampNeg 10)))] H := hP
          have hD : va_D A [(h, .inr (7, [.ref sl, .int na, .ref zs, .ref ln, .ref ir, .ref tk, .int su, .int le, .ref tb, .int fu, .int ap, .int pp, .ref tr, .int 2, .ref fz, .int nm])), (sl, .inl (cI, 1653, .inl sf)), (tr, .inl (cI, 16, .inl (upd (upd trf (0 : Int32).toNatClampNeg 13) (1 : Int32).toNatClampNeg 10)))] := hD
          clear hw_12
          refine lv_goto (tgt := 43) hx hb dX8_ask_35 (by decide) ?_
          exact wr_i (v := r_12) hx hb hr hlocks hS (2, (upd (upd trf (0 : Int32).toNatClampNeg 13) (1 : Int32).toNatClampNeg 10)) (by exact ⟨show TRA ((0 ≤ v.toInt ∧ v.toInt < (sf 2).toInt) ∧ (0 ≤ k.toInt ∧ k.toInt ≤ 1)) (sf (20 + v.toNatClampNeg)).toInt k.toInt tc.toInt 2 trf (upd (upd trf (0 : Int32).toNatClampNeg 13) (1 : Int32).toNatClampNeg 10) from Or.inl ⟨by omega, TRL_mk (l := [13, 10]) (by rw [hs, show k.toInt = 0 from by omega]; first | rfl | decide) (by decide) (fun j hj => by have hj : j < 2 := hj; rcases (show j = 0 ∨ j = 1 by omega) with rfl | rfl <;> rfl)⟩, show 0 ≤ (2 : Int32).toInt ∧ (2 : Int32).toInt ≤ 16 from ⟨by decide, by decide⟩⟩) (hP.sub [0, 1, 2] rfl) (hD.sub [0, 1, 2] (by decide) rfl) dX8_ask_43
        · have hkd : sf (20 + v.toNatClampNeg) = 5 := Int32.toInt_inj.mp (hs.trans (by decide))
          have k_13 := (t_X8_sizeOf_5_0 l D cI cB cQ H.size h sl zs ln ir tk tb tr fz na su le fu ap pp nm v sf trf v0 hsi (by omega) (by omega) (by omega) (by omega) (by omega) (hkd))
          refine wc_i (WC := [(h, .inr (7, [.ref sl, .int na, .ref zs, .ref ln, .ref ir, .ref tk, .int su, .int le, .ref tb, .int fu, .int ap, .int pp, .ref tr, .int 0, .ref fz, .int nm])), (sl, .inl (cI, 1653, .inl sf)), (tr, .inl (cI, 16, .inl trf))]) (WR := []) (va_runV (As := [.int v]) (rest := []) ⟨hx, hb, hml, hown, hts⟩ k_13 (cwV 1 hts gX8_ask_X8_sizeOf rfl rfl rfl (by decide +kernel) ⟨Nat.le_of_ble_eq_true rfl, Nat.le_of_ble_eq_true rfl⟩) (wp_V hP hK hD hN [1, 2, 0] (by decide) rfl (ci := 7) rfl rfl) rfl rfl hl.1 rfl (lv_room (Nat.le_of_ble_eq_true rfl)) dX8_ask_32 ⟨Nat.le_of_ble_eq_true rfl, Nat.le_of_ble_eq_true rfl⟩) hP hD hS hA [1, 2, 0] [] rfl rfl (by decide) (by decide) (fun r_13 u_13 H locs hw_13 hP hD hS => ?_)
          clear k_13
          have hP : va_P D kl [(h, .inr (7, [.ref sl, .int na, .ref zs, .ref ln, .ref ir, .ref tk, .int su, .int le, .ref tb, .int fu, .int ap, .int pp, .ref tr, .int 3, .ref fz, .int nm])), (sl, .inl (cI, 1653, .inl sf)), (tr, .inl (cI, 16, .inl (upd (upd (upd trf (0 : Int32).toNatClampNeg 14) (1 : Int32).toNatClampNeg 13) (2 : Int32).toNatClampNeg 10)))] H := hP
          have hD : va_D A [(h, .inr (7, [.ref sl, .int na, .ref zs, .ref ln, .ref ir, .ref tk, .int su, .int le, .ref tb, .int fu, .int ap, .int pp, .ref tr, .int 3, .ref fz, .int nm])), (sl, .inl (cI, 1653, .inl sf)), (tr, .inl (cI, 16, .inl (upd (upd (upd trf (0 : Int32).toNatClampNeg 14) (1 : Int32).toNatClampNeg 13) (2 : Int32).toNatClampNeg 10)))] := hD
          clear hw_13
          refine lv_goto (tgt := 43) hx hb dX8_ask_35 (by decide) ?_
          exact wr_i (v := r_13) hx hb hr hlocks hS (3, (upd (upd (upd trf (0 : Int32).toNatClampNeg 14) (1 : Int32).toNatClampNeg 13) (2 : Int32).toNatClampNeg 10)) (by exact ⟨show TRA ((0 ≤ v.toInt ∧ v.toInt < (sf 2).toInt) ∧ (0 ≤ k.toInt ∧ k.toInt ≤ 1)) (sf (20 + v.toNatClampNeg)).toInt k.toInt tc.toInt 3 trf (upd (upd (upd trf (0 : Int32).toNatClampNeg 14) (1 : Int32).toNatClampNeg 13) (2 : Int32).toNatClampNeg 10) from Or.inl ⟨by omega, TRL_mk (l := [14, 13, 10]) (by rw [hs, show k.toInt = 0 from by omega]; first | rfl | decide) (by decide) (fun j hj => by have hj : j < 3 := hj; rcases (show j = 0 ∨ j = 1 ∨ j = 2 by omega) with rfl | rfl | rfl <;> rfl)⟩, show 0 ≤ (3 : Int32).toInt ∧ (3 : Int32).toInt ≤ 16 from ⟨by decide, by decide⟩⟩) (hP.sub [0, 1, 2] rfl) (hD.sub [0, 1, 2] (by decide) rfl) dX8_ask_43
    · subst e_2
      have f_2 : ¬ ((0 : Int) ≤ k.toInt ∧ k.toInt ≤ (1 : Int)) := by
        have h8 := f_2
        try simp only [zl_of] at h8
        exact h8
      refine lv_if_ne (tgt := 21) hx hb dX8_ask_15 (by decide) (fun c9 => absurd (by decide) c9) (fun _ => ?_)
      refine lv_ldc (v := (-1000001)) hx hb hown (hts (.constant RX8 48 (-1000001)) (List.mem_of_getElem? (i := 1) rfl)) dX8_ask_18 ?_
      exact wr_i (v := (-1000001)) hx hb hr hlocks hS (tc, trf) (by exact ⟨show TRA ((0 ≤ v.toInt ∧ v.toInt < (sf 2).toInt) ∧ (0 ≤ k.toInt ∧ k.toInt ≤ 1)) (sf (20 + v.toNatClampNeg)).toInt k.toInt tc.toInt tc.toInt trf trf from Or.inr ⟨by omega, rfl, rfl⟩, show 0 ≤ (tc : Int32).toInt ∧ (tc : Int32).toInt ≤ 16 from by omega⟩) (hP.sub [1, 2, 0] rfl) (hD.sub [1, 2, 0] (by decide) rfl) dX8_ask_20
  · subst e_1
    have f_1 : ¬ (0 ≤ v.toInt ∧ v.toInt < (sf 2).toInt) := f_1
    refine lv_if_eq (tgt := 18) hx hb dX8_ask_5 (by decide) (fun _ => ?_) (fun c9 => absurd (by decide) c9)
    refine lv_ldc (v := (-1000001)) hx hb hown (hts (.constant RX8 48 (-1000001)) (List.mem_of_getElem? (i := 1) rfl)) dX8_ask_18 ?_
    exact wr_i (v := (-1000001)) hx hb hr hlocks hS (tc, trf) (by exact ⟨show TRA ((0 ≤ v.toInt ∧ v.toInt < (sf 2).toInt) ∧ (0 ≤ k.toInt ∧ k.toInt ≤ 1)) (sf (20 + v.toNatClampNeg)).toInt k.toInt tc.toInt tc.toInt trf trf from Or.inr ⟨by omega, rfl, rfl⟩, show 0 ≤ (tc : Int32).toInt ∧ (tc : Int32).toInt ≤ 16 from by omega⟩) (hP.sub [1, 2, 0] rfl) (hD.sub [1, 2, 0] (by decide) rfl) dX8_ask_20
set_option maxHeartbeats 4000000 in
set_option maxRecDepth 100000 in
theorem t_X8_trace (l : Launch) (D : va_G) (cI cB cQ : ClassId) (sz : Nat) (h : Nat) (sl : Nat) (zs : Nat) (ln : Nat) (ir : Nat) (tk : Nat) (tb : Nat) (tr : Nat) (fz : Nat) (na : Int32) (su : Int32) (le : Int32) (fu : Int32) (ap : Int32) (pp : Int32) (tc : Int32) (nm : Int32) (i : Int32) (trf : Nat → Int32) (h_na : 0 ≤ na.toInt ∧ na.toInt ≤ 24) (h_le : 0 ≤ le.toInt ∧ le.toInt ≤ 120) (h_ap : 0 ≤ ap.toInt ∧ ap.toInt ≤ 120) (h_tc : 0 ≤ tc.toInt ∧ tc.toInt ≤ 16) (h_pp : 0 ≤ pp.toInt ∧ pp.toInt ≤ 120) : mi l yX8_trace wsX8_trace ({ frames := 1, cells := 0, slots := 0, locals := 25 }) D cI cB cQ [.ref h, .int i] sz [(h, .inr (7, [.ref sl, .int na, .ref zs, .ref ln, .ref ir, .ref tk, .int su, .int le, .ref tb, .int fu, .int ap, .int pp, .ref tr, .int tc, .ref fz, .int nm])), (tr, .inl (cI, 16, .inl trf))] (fun (r : Int32) (_u : Unit) => (((0 ≤ i.toInt ∧ i.toInt < tc.toInt) ∧ r.toInt = (trf i.toNatClampNeg).toInt) ∨ (¬ (0 ≤ i.toInt ∧ i.toInt < tc.toInt) ∧ r.toInt = (-1000000)))) (fun _ => [(h, .inr (7, [.ref sl, .int na, .ref zs, .ref ln, .ref ir, .ref tk, .int su, .int le, .ref tb, .int fu, .int ap, .int pp, .ref tr, .int tc, .ref fz, .int nm])), (tr, .inl (cI, 16, .inl trf))]) 0 0 := by
  refine wm_i (cc := cX8_trace) (maxL := 2) (ret := (some .int)) (by decide) rfl (Nat.le_of_ble_eq_true rfl) ?_
  intro p e s m below meth c A ls hx hb hr hml hown hts hlocks hin hP hK hD hN hA hl hS
  have hown : s.vm.findClass RX8 = some m.cls := hown
  have hl : lv_has ls 2 [(0, .ref h), (1, .int i)] := hl
  change W p l e ({ frames := 1, cells := 0, slots := 0, locals := 25 }) s m ([.ref h, .int i] : List Value).toArray below meth c s.heap [] 0 0 (MQ below (va_Qi (fun (r : Int32) (_u : Unit) => (((0 ≤ i.toInt ∧ i.toInt < tc.toInt) ∧ r.toInt = (trf i.toNatClampNeg).toInt) ∨ (¬ (0 ≤ i.toInt ∧ i.toInt < tc.toInt) ∧ r.toInt = (-1000000)))) (fun u t => wb D A ((fun _ => [(h, .inr (7, [.ref sl, .int na, .ref zs, .ref ln, .ref ir, .ref tk, .int su, .int le, .ref tb, .int fu, .int ap, .int pp, .ref tr, .int tc, .ref fz, .int nm])), (tr, .inl (cI, 16, .inl trf))]) u) t) A) ([.ref h, .int i] : List Value).toArray s 0 0 A) (F0 m 0 ls [])
  refine lv_iload_n hx hb dX8_trace_0 rfl (lv_at hl 1 rfl) ?_
  refine lv_i2l (v := (i.toInt64)) hx hb dX8_trace_1 rfl ?_
  refine lv_lconst (v := 0) hx hb dX8_trace_2 (by decide) ?_
  refine lv_aload_n hx hb dX8_trace_3 rfl (lv_at hl 0 rfl) ?_
  refine va_get (D := D) (ci := 7) (v := .int tc) (C := RX8) (T := TX8) (N := 16) hx hb hts (fun _ h => List.mem_cons_of_mem _ (List.mem_append_right _ h)) hown hK hP 0 rfl rfl 13 (by decide) (hts (.fieldLink RX8 208 "WinterWalkModel" "traced" "I") (List.mem_of_getElem? (i := 1) rfl)) (fun _ h9 => h9) rfl dX8_trace_4 ?_
  refine lv_iconst (v := 1) hx hb dX8_trace_7 (by decide) ?_
  refine lv_isub hx hb dX8_trace_8 ?_
  refine lv_topi (fun x_1 ex_1 => ?_)
  have e_1 : x_1.toInt = tc.toInt - 1 := by rw [ex_1]; exact zi_sub (rfl) (by decide) (by omega) (by omega)
  clear ex_1
  refine lv_i2l (v := (x_1.toInt64)) hx hb dX8_trace_9 rfl ?_
  have k_2 := (g_X8_in l D cI cB cQ s.heap.size (i.toInt64) 0 (x_1.toInt64))
  refine wc_i (WC := []) (WR := [(h, .inr (7, [.ref sl, .int na, .ref zs, .ref ln, .ref ir, .ref tk, .int su, .int le, .ref tb, .int fu, .int ap, .int pp, .ref tr, .int tc, .ref fz, .int nm])), (tr, .inl (cI, 16, .inl trf))]) (va_runS (As := [.long (i.toInt64), .long 0, .long (x_1.toInt64)]) (rest := []) ⟨hx, hb, hml, hown, hts⟩ k_2 (va_cwS 3 hts gX8_trace_X8_in rfl rfl rfl (by decide +kernel) ⟨Nat.le_of_ble_eq_true rfl, Nat.le_of_ble_eq_true rfl⟩) (wp_S hP hK hD hN [] (by decide) rfl) rfl rfl hl.1 rfl (lv_room (Nat.le_of_ble_eq_true rfl)) dX8_trace_10 ⟨Nat.le_of_ble_eq_true rfl, Nat.le_of_ble_eq_true rfl⟩) hP hD hS hA [] [0, 1] rfl rfl (by decide) (by decide) (fun r_2 u_2 H locs hw_2 hP hD hS => ?_)
  clear k_2
  have hP : va_P D kl [(h, .inr (7, [.ref sl, .int na, .ref zs, .ref ln, .ref ir, .ref tk, .int su, .int le, .ref tb, .int fu, .int ap, .int pp, .ref tr, .int tc, .ref fz, .int nm])), (tr, .inl (cI, 16, .inl trf))] H := hP
  have hD : va_D A [(h, .inr (7, [.ref sl, .int na, .ref zs, .ref ln, .ref ir, .ref tk, .int su, .int le, .ref tb, .int fu, .int ap, .int pp, .ref tr, .int tc, .ref fz, .int nm])), (tr, .inl (cI, 16, .inl trf))] := hD
  have c2_0 := hw_2
  rcases c2_0 with ⟨e_2, f_2⟩ | ⟨e_2, f_2⟩
  · subst e_2
    have f_2 : (0 : Int) ≤ i.toInt ∧ i.toInt ≤ x_1.toInt := by
      have h8 := f_2
      try simp only [zl_of] at h8
      exact h8
    refine lv_if_eq (tgt := 25) hx hb dX8_trace_13 (by decide) (fun c9 => absurd c9 (by decide)) (fun _ => ?_)
    refine lv_aload_n hx hb dX8_trace_16 rfl (lv_at hl 0 rfl) ?_
    refine va_get (D := D) (ci := 7) (v := .ref tr) (C := RX8) (T := TX8) (N := 16) hx hb hts (fun _ h => List.mem_cons_of_mem _ (List.mem_append_right _ h)) hown hK hP 0 rfl rfl 12 (by decide) (hts (.fieldLink RX8 29 "WinterWalkModel" "trace" "[I") (List.mem_of_getElem? (i := 2) rfl)) (fun _ h9 => h9) rfl dX8_trace_17 ?_
    refine lv_iload_n hx hb dX8_trace_20 rfl (lv_at hl 1 rfl) ?_
    refine va_iald hx hb hK hP 1 0 rfl rfl (zi_in (by omega) (by omega)) dX8_trace_21 ?_
    refine lv_topi (fun x_3 ex_3 => ?_)
    refine lv_goto (tgt := 27) hx hb dX8_trace_22 (by decide) ?_
    exact wr_i (v := x_3) hx hb hr hlocks hS () (by exact show ((0 ≤ i.toInt ∧ i.toInt < tc.toInt) ∧ x_3.toInt = (trf i.toNatClampNeg).toInt) ∨ (¬ (0 ≤ i.toInt ∧ i.toInt < tc.toInt) ∧ x_3.toInt = (-1000000)) from Or.inl ⟨by omega, congrArg Int32.toInt ex_3⟩) (hP.sub [0, 1] rfl) (hD.sub [0, 1] (by decide) rfl) dX8_trace_27
  · subst e_2
    have f_2 : ¬ ((0 : Int) ≤ i.toInt ∧ i.toInt ≤ x_1.toInt) := by
      have h8 := f_2
      try simp only [zl_of] at h8
      exact h8
    refine lv_if_eq (tgt := 25) hx hb dX8_trace_13 (by decide) (fun _ => ?_) (fun c9 => absurd (by decide) c9)
    refine lv_ldc (v := (-1000000)) hx hb hown (hts (.constant RX8 99 (-1000000)) (List.mem_of_getElem? (i := 3) rfl)) dX8_trace_25 ?_
    exact wr_i (v := (-1000000)) hx hb hr hlocks hS () (by exact show ((0 ≤ i.toInt ∧ i.toInt < tc.toInt) ∧ (-1000000) = (trf i.toNatClampNeg).toInt) ∨ (¬ (0 ≤ i.toInt ∧ i.toInt < tc.toInt) ∧ (-1000000) = (-1000000)) from Or.inr ⟨by omega, by decide⟩) (hP.sub [0, 1] rfl) (hD.sub [0, 1] (by decide) rfl) dX8_trace_27
