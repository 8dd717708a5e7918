set_option maxHeartbeats 4000000 in
set_option maxRecDepth 100000 in
theorem p_X8_isWalker (l : Launch) (D : va_G) (cI cB cQ : ClassId) (sz : Nat) (h : Nat) (sl : Nat) (zs : Nat) (ln : Nat) (ir : Nat) (tk : Nat) (tb : Nat) (tr : Nat) (fz : Nat) (na : Int32) (su : Int32) (le : Int32) (fu : Int32) (ap : Int32) (pp : Int32) (tc : Int32) (nm : Int32) (k : Int32) (sf : Nat → Int32) (tbf : Nat → Int32) (v0 : Int) (hsi : SI sf v0) (h_na : 0 ≤ na.toInt ∧ na.toInt ≤ 24) (h_le : 0 ≤ le.toInt ∧ le.toInt ≤ 120) (h_ap : 0 ≤ ap.toInt ∧ ap.toInt ≤ 120) (h_tc : 0 ≤ tc.toInt ∧ tc.toInt ≤ 16) (h_pp : 0 ≤ pp.toInt ∧ pp.toInt ≤ 120) (h_x : ap.toInt < le.toInt) (h_k : k.toInt = tbr tbf le.toInt ap.toInt) : mi l yX8_isWalker wsX8_isWalker ({ frames := 2, cells := 0, slots := 0, locals := 49 }) D cI cB cQ [.ref h, .int k] sz [(h, .inr (7, [.ref sl, .int na, .ref zs, .ref ln, .ref ir, .ref tk, .int su, .int le, .ref tb, .int fu, .int ap, .int pp, .ref tr, .int tc, .ref fz, .int nm])), (sl, .inl (cI, 1653, .inl sf)), (tb, .inl (cB, 120, .inl tbf))] (fun (r : Int32) (u : Int32 × Int32 × Int32 × Int32 × (Nat → Int32)) => ((r = 1 ∧ ((((0, u.1.toInt, u.2.2.1.toInt, u.2.1.toInt) : TPS), ur u.2.2.2.2) : TPT) = tpW (tbr tbf le.toInt) ((0, fu.toInt, pp.toInt, ap.toInt), ur sf) ∧ ap.toInt < u.2.1.toInt ∧ (ur u.2.2.2.2).1 = (ur sf).1 ∧ (ur u.2.2.2.2).2.1 = (ur sf).2.1) ∨ (r = 0 ∧ tfa (tpW (tbr tbf le.toInt) ((0, fu.toInt, pp.toInt, ap.toInt), ur sf)).1 u.1.toInt u.2.2.1.toInt)) ∧ ((ap.toInt ≤ u.2.1.toInt)) ∧ (FRM (1596) (1653) sf u.2.2.2.2) ∧ (0 ≤ u.2.1.toInt ∧ u.2.1.toInt ≤ 120) ∧ (0 ≤ u.2.2.1.toInt ∧ u.2.2.1.toInt ≤ 120) ∧ (SI u.2.2.2.2 v0)) (fun u => [(h, .inr (7, [.ref sl, .int na, .ref zs, .ref ln, .ref ir, .ref tk, .int su, .int le, .ref tb, .int u.1, .int u.2.1, .int u.2.2.1, .ref tr, .int tc, .ref fz, .int u.2.2.2.1])), (sl, .inl (cI, 1653, .inl u.2.2.2.2)), (tb, .inl (cB, 120, .inl tbf))]) 0 0 := by
  refine wm_i (cc := cX8_isWalker) (maxL := 3) (ret := (some .boolean)) (by decide) rfl (Nat.le_of_ble_eq_true rfl) ?_
  intro p e s m below meth c A ls hx hb hr hml hown hts hlocks hin hP hK hD hN hA hl hS
  have hown : s.vm.findClass RX8 = some m.cls := hown
  have hl : lv_has ls 3 [(0, .ref h), (1, .int k)] := hl
  change W p l e ({ frames := 2, cells := 0, slots := 0, locals := 49 }) s m ([.ref h, .int k] : List Value).toArray below meth c s.heap [] 0 0 (MQ below (va_Qi (fun (r : Int32) (u : Int32 × Int32 × Int32 × Int32 × (Nat → Int32)) => ((r = 1 ∧ ((((0, u.1.toInt, u.2.2.1.toInt, u.2.1.toInt) : TPS), ur u.2.2.2.2) : TPT) = tpW (tbr tbf le.toInt) ((0, fu.toInt, pp.toInt, ap.toInt), ur sf) ∧ ap.toInt < u.2.1.toInt ∧ (ur u.2.2.2.2).1 = (ur sf).1 ∧ (ur u.2.2.2.2).2.1 = (ur sf).2.1) ∨ (r = 0 ∧ tfa (tpW (tbr tbf le.toInt) ((0, fu.toInt, pp.toInt, ap.toInt), ur sf)).1 u.1.toInt u.2.2.1.toInt)) ∧ ((ap.toInt ≤ u.2.1.toInt)) ∧ (FRM (1596) (1653) sf u.2.2.2.2) ∧ (0 ≤ u.2.1.toInt ∧ u.2.1.toInt ≤ 120) ∧ (0 ≤ u.2.2.1.toInt ∧ u.2.2.1.toInt ≤ 120) ∧ (SI u.2.2.2.2 v0)) (fun u t => wb D A ((fun u => [(h, .inr (7, [.ref sl, .int na, .ref zs, .ref ln, .ref ir, .ref tk, .int su, .int le, .ref tb, .int u.1, .int u.2.1, .int u.2.2.1, .ref tr, .int tc, .ref fz, .int u.2.2.2.1])), (sl, .inl (cI, 1653, .inl u.2.2.2.2)), (tb, .inl (cB, 120, .inl tbf))]) u) t) A) ([.ref h, .int k] : List Value).toArray s 0 0 A) (F0 m 0 ls [])
  refine lv_aload_n hx hb dX8_isWalker_0 rfl (lv_at hl 0 rfl) ?_
  refine va_get (D := D) (ci := 7) (v := .ref sl) (C := RX8) (T := TX8) (N := 16) hx hb hts (fun _ h => List.mem_cons_of_mem _ (List.mem_append_right _ h)) hown hK hP 0 rfl rfl 0 (by decide) (hts (.fieldLink RX8 7 "WinterWalkModel" "slot" "[I") (List.mem_of_getElem? (i := 1) rfl)) (fun _ h9 => h9) rfl dX8_isWalker_1 ?_
  refine lv_sipush (v := 1598) hx hb dX8_isWalker_4 (by decide) ?_
  refine va_iald hx hb hK hP 1 0 rfl rfl (zi_in (by decide) (by decide)) dX8_isWalker_7 ?_
  refine lv_topi (fun x_1 ex_1 => ?_)
  have f_1 : 0 ≤ x_1.toInt ∧ x_1.toInt ≤ 3 := by rw [ex_1]; exact si_w hsi (s := 28) (by decide) (by omega)
  have u_1 : x_1.toInt = (ur sf).2.2.1 := by rw [ex_1]; exact ux_w
  refine lv_istore_n (lv' := [(2, .int x_1), (0, .ref h), (1, .int k)]) hx hb dX8_isWalker_8 rfl hl (by decide) rfl (fun ls hl => ?_)
  refine lv_iload_n hx hb dX8_isWalker_9 rfl (lv_at hl 0 rfl) ?_
  refine lv_iconst (v := 3) hx hb dX8_isWalker_10 (by decide) ?_
  refine lv_icmp_ne (tgt := 24) hx hb dX8_isWalker_11 (by decide) (fun c_2 => ?_) (fun c_2 => ?_)
  · have f_2 : ¬ (ur sf).2.2.1 = 3 := by
      have h8 := zi_ne c_2
      try rw [u_1] at h8
      exact h8
    refine lv_aload_n hx hb dX8_isWalker_24 rfl (lv_at hl 1 rfl) ?_
    refine lv_dup hx hb dX8_isWalker_25 rfl ?_
    refine va_get (D := D) (ci := 7) (v := .int ap) (C := RX8) (T := TX8) (N := 16) hx hb hts (fun _ h => List.mem_cons_of_mem _ (List.mem_append_right _ h)) hown hK hP 0 rfl rfl 10 (by decide) (hts (.fieldLink RX8 62 "WinterWalkModel" "at" "I") (List.mem_of_getElem? (i := 2) rfl)) (fun _ h9 => h9) rfl dX8_isWalker_26 ?_
    refine lv_iconst (v := 1) hx hb dX8_isWalker_29 (by decide) ?_
    refine lv_iadd hx hb dX8_isWalker_30 ?_
    refine lv_topi (fun x_3 ex_3 => ?_)
    have e_3 : x_3.toInt = ap.toInt + 1 := by rw [ex_3]; exact zi_add (rfl) (by decide) (by omega) (by omega)
    refine va_put (D := D) (ci := 7) (v := .int x_3) (ty := .int) (C := RX8) (T := TX8) (N := 16) hx hb hts (fun _ h => List.mem_cons_of_mem _ (List.mem_append_right _ h)) tyX8 tyX8_ok nmX8 hown hK hP hD hS 0 rfl rfl 10 (by decide) (hts (.fieldLink RX8 62 "WinterWalkModel" "at" "I") (List.mem_of_getElem? (i := 2) rfl)) (fun _ h9 => h9) rfl (by decide +kernel) rfl rfl (Nat.le_of_ble_eq_true rfl) dX8_isWalker_31 (fun H locs hP hD hS => ?_)
    have hP : va_P D kl [(h, .inr (7, [.ref sl, .int na, .ref zs, .ref ln, .ref ir, .ref tk, .int su, .int le, .ref tb, .int fu, .int x_3, .int pp, .ref tr, .int tc, .ref fz, .int nm])), (sl, .inl (cI, 1653, .inl sf)), (tb, .inl (cB, 120, .inl tbf))] H := hP
    have hD : va_D A [(h, .inr (7, [.ref sl, .int na, .ref zs, .ref ln, .ref ir, .ref tk, .int su, .int le, .ref tb, .int fu, .int x_3, .int pp, .ref tr, .int tc, .ref fz, .int nm])), (sl, .inl (cI, 1653, .inl sf)), (tb, .inl (cB, 120, .inl tbf))] := hD
    refine lv_aload_n hx hb dX8_isWalker_34 rfl (lv_at hl 1 rfl) ?_
    refine lv_iconst (v := 0) hx hb dX8_isWalker_35 (by decide) ?_
    refine lv_aload_n hx hb dX8_isWalker_36 rfl (lv_at hl 1 rfl) ?_
    refine va_get (D := D) (ci := 7) (v := .ref sl) (C := RX8) (T := TX8) (N := 16) hx hb hts (fun _ h => List.mem_cons_of_mem _ (List.mem_append_right _ h)) hown hK hP 0 rfl rfl 0 (by decide) (hts (.fieldLink RX8 7 "WinterWalkModel" "slot" "[I") (List.mem_of_getElem? (i := 1) rfl)) (fun _ h9 => h9) rfl dX8_isWalker_37 ?_
    refine lv_sipush (v := 1597) hx hb dX8_isWalker_40 (by decide) ?_
    refine va_iald hx hb hK hP 1 0 rfl rfl (zi_in (by decide) (by decide)) dX8_isWalker_43 ?_
    refine lv_topi (fun x_4 ex_4 => ?_)
    have f_4 : 0 ≤ x_4.toInt ∧ x_4.toInt ≤ 8 := by rw [ex_4]; exact si_v hsi (s := 28) (by decide) (by omega)
    have u_4 : x_4.toInt = (ur sf).1 := by rw [ex_4]; exact ux_v
    refine lv_iconst (v := 1) hx hb dX8_isWalker_44 (by decide) ?_
    refine lv_isub hx hb dX8_isWalker_45 ?_
    refine lv_topi (fun x_5 ex_5 => ?_)
    have e_5 : x_5.toInt = (ur sf).1 - 1 := by rw [ex_5]; exact zi_sub (u_4) (by decide) (by omega) (by omega)
    have k_6 := (p_X8_isNumber l D cI cB cQ H.size h sl zs ln ir tk tb tr fz na su le fu x_3 pp tc nm 0 x_5 tbf (by omega) (by omega) (by omega) (by omega) (by omega))
    refine wc_i (WC := [(h, .inr (7, [.ref sl, .int na, .ref zs, .ref ln, .ref ir, .ref tk, .int su, .int le, .ref tb, .int fu, .int x_3, .int pp, .ref tr, .int tc, .ref fz, .int nm])), (tb, .inl (cB, 120, .inl tbf))]) (WR := [(sl, .inl (cI, 1653, .inl sf))]) (va_runV (As := [.int 0, .int x_5]) (rest := []) ⟨hx, hb, hml, hown, hts⟩ k_6 (cwV 2 hts gX8_isWalker_X8_isNumber rfl rfl rfl (by decide +kernel) ⟨Nat.le_of_ble_eq_true rfl, Nat.le_of_ble_eq_true rfl⟩) (wp_V hP hK hD hN [0, 2] (by decide) rfl (ci := 7) rfl rfl) rfl rfl hl.1 rfl (lv_room (Nat.le_of_ble_eq_true rfl)) dX8_isWalker_46 ⟨Nat.le_of_ble_eq_true rfl, Nat.le_of_ble_eq_true rfl⟩) hP hD hS hA [0, 2] [1] rfl rfl (by decide) (by decide) (fun r_6 => pe4 (fun v6_0 v6_1 v6_2 v6_3 H locs hw_6 hP hD hS => ?_))
    clear k_6
    have hP : va_P D kl [(sl, .inl (cI, 1653, .inl sf)), (h, .inr (7, [.ref sl, .int na, .ref zs, .ref ln, .ref ir, .ref tk, .int su, .int le, .ref tb, .int v6_0, .int v6_1, .int v6_2, .ref tr, .int tc, .ref fz, .int v6_3])), (tb, .inl (cB, 120, .inl tbf))] H := hP
    have hD : va_D A [(sl, .inl (cI, 1653, .inl sf)), (h, .inr (7, [.ref sl, .int na, .ref zs, .ref ln, .ref ir, .ref tk, .int su, .int le, .ref tb, .int v6_0, .int v6_1, .int v6_2, .ref tr, .int tc, .ref fz, .int v6_3])), (tb, .inl (cB, 120, .inl tbf))] := hD
    obtain ⟨c6_0, c6_1, c6_2, c6_3⟩ := hw_6
    have c6_1 : x_3.toInt ≤ v6_1.toInt := by
      have h8 := c6_1
      try rw [e_5] at h8
      exact h8
    have c6_2 : 0 ≤ v6_1.toInt ∧ v6_1.toInt ≤ 120 := c6_2
    have c6_3 : 0 ≤ v6_2.toInt ∧ v6_2.toInt ≤ 120 := c6_3
    rcases c6_0 with ⟨e_6, f_6⟩ | ⟨e_6, f_6⟩
    · subst e_6
      have f_6 : ((0, v6_0.toInt, v6_2.toInt, v6_1.toInt) : TPS) = tN (tbr tbf le.toInt) (0 : Int) ((ur sf).1 - 1) (0, fu.toInt, pp.toInt, x_3.toInt) ∧ v6_3.toInt = tV (tbr tbf le.toInt) (0 : Int) ((ur sf).1 - 1) (0, fu.toInt, pp.toInt, x_3.toInt) ∧ ((0 : Int) ≤ v6_3.toInt ∧ v6_3.toInt ≤ ((ur sf).1 - 1)) := by
        have h8 := f_6
        try rw [e_5] at h8
        exact h8
      refine lv_if_ne (tgt := 54) hx hb dX8_isWalker_49 (by decide) (fun _ => ?_) (fun c9 => absurd c9 (by decide))
      refine lv_aload_n hx hb dX8_isWalker_54 rfl (lv_at hl 1 rfl) ?_
      refine va_get (D := D) (ci := 7) (v := .ref sl) (C := RX8) (T := TX8) (N := 16) hx hb hts (fun _ h => List.mem_cons_of_mem _ (List.mem_append_right _ h)) hown hK hP 1 rfl rfl 0 (by decide) (hts (.fieldLink RX8 7 "WinterWalkModel" "slot" "[I") (List.mem_of_getElem? (i := 1) rfl)) (fun _ h9 => h9) rfl dX8_isWalker_55 ?_
      refine lv_sipush (v := 1616) hx hb dX8_isWalker_58 (by decide) ?_
      refine lv_iload_n hx hb dX8_isWalker_61 rfl (lv_at hl 0 rfl) ?_
      refine lv_iadd hx hb dX8_isWalker_62 ?_
      refine lv_topi (fun x_7 ex_7 => ?_)
      have e_7 : x_7.toInt = 1616 + (ur sf).2.2.1 := by rw [ex_7]; exact zi_add (by decide) (u_1) (by omega) (by omega)
      refine lv_iload_n hx hb dX8_isWalker_63 rfl (lv_at hl 2 rfl) ?_
      have k_8 := (p_X8_sortOf l D cI cB cQ H.size k)
      refine wc_i (WC := []) (WR := [(sl, .inl (cI, 1653, .inl sf)), (h, .inr (7, [.ref sl, .int na, .ref zs, .ref ln, .ref ir, .ref tk, .int su, .int le, .ref tb, .int v6_0, .int v6_1, .int v6_2, .ref tr, .int tc, .ref fz, .int v6_3])), (tb, .inl (cB, 120, .inl tbf))]) (va_runS (As := [.int k]) (rest := [.int x_7, .ref sl]) ⟨hx, hb, hml, hown, hts⟩ k_8 (va_cwS 1 hts gX8_isWalker_X8_sortOf rfl rfl rfl (by decide +kernel) ⟨Nat.le_of_ble_eq_true rfl, Nat.le_of_ble_eq_true rfl⟩) (wp_S hP hK hD hN [] (by decide) rfl) rfl rfl hl.1 rfl (lv_room (Nat.le_of_ble_eq_true rfl)) dX8_isWalker_64 ⟨Nat.le_of_ble_eq_true rfl, Nat.le_of_ble_eq_true rfl⟩) hP hD hS hA [] [0, 1, 2] rfl rfl (by decide) (by decide) (fun r_8 u_8 H locs hw_8 hP hD hS => ?_)
      clear k_8
      have hP : va_P D kl [(sl, .inl (cI, 1653, .inl sf)), (h, .inr (7, [.ref sl, .int na, .ref zs, .ref ln, .ref ir, .ref tk, .int su, .int le, .ref tb, .int v6_0, .int v6_1, .int v6_2, .ref tr, .int tc, .ref fz, .int v6_3])), (tb, .inl (cB, 120, .inl tbf))] H := hP
      have hD : va_D A [(sl, .inl (cI, 1653, .inl sf)), (h, .inr (7, [.ref sl, .int na, .ref zs, .ref ln, .ref ir, .ref tk, .int su, .int le, .ref tb, .int v6_0, .int v6_1, .int v6_2, .ref tr, .int tc, .ref fz, .int v6_3])), (tb, .inl (cB, 120, .inl tbf))] := hD
      have c8_0 := hw_8
      have c8_0 : r_8.toInt = tpo k.toInt ∧ ((0 ≤ r_8.toInt ∧ r_8.toInt ≤ 5) ∧ (r_8.toInt = 0 ∨ 0 ≤ k.toInt)) := c8_0
      refine va_iast hx hb hK hP hD hS 0 0 rfl rfl (zi_in (by omega) (by omega)) dX8_isWalker_67 (fun H locs hP hD hS => ?_)
      have hP : va_P D kl [(sl, .inl (cI, 1653, .inl (upd sf (x_7 : Int32).toNatClampNeg r_8))), (h, .inr (7, [.ref sl, .int na, .ref zs, .ref ln, .ref ir, .ref tk, .int su, .int le, .ref tb, .int v6_0, .int v6_1, .int v6_2, .ref tr, .int tc, .ref fz, .int v6_3])), (tb, .inl (cB, 120, .inl tbf))] H := hP
      have hD : va_D A [(sl, .inl (cI, 1653, .inl (upd sf (x_7 : Int32).toNatClampNeg r_8))), (h, .inr (7, [.ref sl, .int na, .ref zs, .ref ln, .ref ir, .ref tk, .int su, .int le, .ref tb, .int v6_0, .int v6_1, .int v6_2, .ref tr, .int tc, .ref fz, .int v6_3])), (tb, .inl (cB, 120, .inl tbf))] := hD
      have ha_9 : SI (upd sf (x_7 : Int32).toNatClampNeg r_8) v0 := si_up hsi (by omega) (fun s0 a0 b0 e0 => by omega) (fun s0 a0 b0 e0 => by omega) (fun s0 k0 a0 b0 c0 d0 e0 => by omega) (by omega)
      have hf_10 : FRM (1596) (1653) sf (upd sf (x_7 : Int32).toNatClampNeg r_8) := FRM.up FRM.refl (by omega)
      refine lv_aload_n hx hb dX8_isWalker_68 rfl (lv_at hl 1 rfl) ?_
      refine va_get (D := D) (ci := 7) (v := .ref sl) (C := RX8) (T := TX8) (N := 16) hx hb hts (fun _ h => List.mem_cons_of_mem _ (List.mem_append_right _ h)) hown hK hP 1 rfl rfl 0 (by decide) (hts (.fieldLink RX8 7 "WinterWalkModel" "slot" "[I") (List.mem_of_getElem? (i := 1) rfl)) (fun _ h9 => h9) rfl dX8_isWalker_69 ?_
      refine lv_sipush (v := 1644) hx hb dX8_isWalker_72 (by decide) ?_
      refine lv_iload_n hx hb dX8_isWalker_75 rfl (lv_at hl 0 rfl) ?_
      refine lv_iadd hx hb dX8_isWalker_76 ?_
      refine lv_topi (fun x_11 ex_11 => ?_)
      have e_11 : x_11.toInt = 1644 + (ur sf).2.2.1 := by rw [ex_11]; exact zi_add (by decide) (u_1) (by omega) (by omega)
      refine lv_aload_n hx hb dX8_isWalker_77 rfl (lv_at hl 1 rfl) ?_
      refine va_get (D := D) (ci := 7) (v := .int v6_3) (C := RX8) (T := TX8) (N := 16) hx hb hts (fun _ h => List.mem_cons_of_mem _ (List.mem_append_right _ h)) hown hK hP 1 rfl rfl 15 (by decide) (hts (.fieldLink RX8 83 "WinterWalkModel" "number" "I") (List.mem_of_getElem? (i := 3) rfl)) (fun _ h9 => h9) rfl dX8_isWalker_78 ?_
      refine va_iast hx hb hK hP hD hS 0 0 rfl rfl (zi_in (by omega) (by omega)) dX8_isWalker_81 (fun H locs hP hD hS => ?_)
      have hP : va_P D kl [(sl, .inl (cI, 1653, .inl (upd (upd sf (x_7 : Int32).toNatClampNeg r_8) (x_11 : Int32).toNatClampNeg v6_3))), (h, .inr (7, [.ref sl, .int na, .ref zs, .ref ln, .ref ir, .ref tk, .int su, .int le, .ref tb, .int v6_0, .int v6_1, .int v6_2, .ref tr, .int tc, .ref fz, .int v6_3])), (tb, .inl (cB, 120, .inl tbf))] H := hP
      have hD : va_D A [(sl, .inl (cI, 1653, .inl (upd (upd sf (x_7 : Int32).toNatClampNeg r_8) (x_11 : Int32).toNatClampNeg v6_3))), (h, .inr (7, [.ref sl, .int na, .ref zs, .ref ln, .ref ir, .ref tk, .int su, .int le, .ref tb, .int v6_0, .int v6_1, .int v6_2, .ref tr, .int tc, .ref fz, .int v6_3])), (tb, .inl (cB, 120, .inl tbf))] := hD
      have ha_12 : SI (upd (upd sf (x_7 : Int32).toNatClampNeg r_8) (x_11 : Int32).toNatClampNeg v6_3) v0 := si_up ha_9 (by omega) (fun s0 a0 b0 e0 => by omega) (fun s0 a0 b0 e0 => by omega) (fun s0 k0 a0 b0 c0 d0 e0 => by omega) (by omega)
      have hf_13 : FRM (1596) (1653) sf (upd (upd sf (x_7 : Int32).toNatClampNeg r_8) (x_11 : Int32).toNatClampNeg v6_3) := FRM.up hf_10 (by omega)
      refine lv_aload_n hx hb dX8_isWalker_82 rfl (lv_at hl 1 rfl) ?_
      refine va_get (D := D) (ci := 7) (v := .ref sl) (C := RX8) (T := TX8) (N := 16) hx hb hts (fun _ h => List.mem_cons_of_mem _ (List.mem_append_right _ h)) hown hK hP 1 rfl rfl 0 (by decide) (hts (.fieldLink RX8 7 "WinterWalkModel" "slot" "[I") (List.mem_of_getElem? (i := 1) rfl)) (fun _ h9 => h9) rfl dX8_isWalker_83 ?_
      refine lv_sipush (v := 1647) hx hb dX8_isWalker_86 (by decide) ?_
      refine lv_iload_n hx hb dX8_isWalker_89 rfl (lv_at hl 0 rfl) ?_
      refine lv_iadd hx hb dX8_isWalker_90 ?_
      refine lv_topi (fun x_14 ex_14 => ?_)
      have e_14 : x_14.toInt = 1647 + (ur sf).2.2.1 := by rw [ex_14]; exact zi_add (by decide) (u_1) (by omega) (by omega)
      refine lv_ldc (v := (-1000000)) hx hb hown (hts (.constant RX8 99 (-1000000)) (List.mem_of_getElem? (i := 4) rfl)) dX8_isWalker_91 ?_
      refine va_iast hx hb hK hP hD hS 0 0 rfl rfl (zi_in (by omega) (by omega)) dX8_isWalker_93 (fun H locs hP hD hS => ?_)
      have hP : va_P D kl [(sl, .inl (cI, 1653, .inl (upd (upd (upd sf (x_7 : Int32).toNatClampNeg r_8) (x_11 : Int32).toNatClampNeg v6_3) (x_14 : Int32).toNatClampNeg (-1000000)))), (h, .inr (7, [.ref sl, .int na, .ref zs, .ref ln, .ref ir, .ref tk, .int su, .int le, .ref tb, .int v6_0, .int v6_1, .int v6_2, .ref tr, .int tc, .ref fz, .int v6_3])), (tb, .inl (cB, 120, .inl tbf))] H := hP
      have hD : va_D A [(sl, .inl (cI, 1653, .inl (upd (upd (upd sf (x_7 : Int32).toNatClampNeg r_8) (x_11 : Int32).toNatClampNeg v6_3) (x_14 : Int32).toNatClampNeg (-1000000)))), (h, .inr (7, [.ref sl, .int na, .ref zs, .ref ln, .ref ir, .ref tk, .int su, .int le, .ref tb, .int v6_0, .int v6_1, .int v6_2, .ref tr, .int tc, .ref fz, .int v6_3])), (tb, .inl (cB, 120, .inl tbf))] := hD
      have ha_15 : SI (upd (upd (upd sf (x_7 : Int32).toNatClampNeg r_8) (x_11 : Int32).toNatClampNeg v6_3) (x_14 : Int32).toNatClampNeg (-1000000)) v0 := si_up ha_12 (by omega) (fun s0 a0 b0 e0 => by first | decide | omega) (fun s0 a0 b0 e0 => by first | decide | omega) (fun s0 k0 a0 b0 c0 d0 e0 => by first | decide | omega) (by omega)
      have hf_16 : FRM (1596) (1653) sf (upd (upd (upd sf (x_7 : Int32).toNatClampNeg r_8) (x_11 : Int32).toNatClampNeg v6_3) (x_14 : Int32).toNatClampNeg (-1000000)) := FRM.up hf_13 (by omega)
      refine lv_aload_n hx hb dX8_isWalker_94 rfl (lv_at hl 1 rfl) ?_
      refine va_get (D := D) (ci := 7) (v := .ref sl) (C := RX8) (T := TX8) (N := 16) hx hb hts (fun _ h => List.mem_cons_of_mem _ (List.mem_append_right _ h)) hown hK hP 1 rfl rfl 0 (by decide) (hts (.fieldLink RX8 7 "WinterWalkModel" "slot" "[I") (List.mem_of_getElem? (i := 1) rfl)) (fun _ h9 => h9) rfl dX8_isWalker_95 ?_
      refine lv_sipush (v := 1598) hx hb dX8_isWalker_98 (by decide) ?_
      refine lv_dup2_11 hx hb dX8_isWalker_101 rfl rfl ?_
      refine va_iald hx hb hK hP 0 0 rfl rfl (zi_in (by decide) (by decide)) dX8_isWalker_102 ?_
      refine lv_topi (fun x_17 ex_17 => ?_)
      have f_17 : 0 ≤ x_17.toInt ∧ x_17.toInt ≤ 3 := by rw [ex_17]; exact si_w ha_15 (s := 28) (by decide) (by omega)
      have g_17 : x_17.toInt = x_1.toInt := by have hk0 : (1598 : Int32).toInt = 1598 := (by decide); rw [ex_17, zu_ne (by omega) (by omega) (by omega), zu_ne (by omega) (by omega) (by omega), zu_ne (by omega) (by omega) (by omega), ex_1]
      refine lv_iconst (v := 1) hx hb dX8_isWalker_103 (by decide) ?_
      refine lv_iadd hx hb dX8_isWalker_104 ?_
      refine lv_topi (fun x_18 ex_18 => ?_)
      have e_18 : x_18.toInt = x_17.toInt + 1 := by rw [ex_18]; exact zi_add (rfl) (by decide) (by omega) (by omega)
      refine va_iast hx hb hK hP hD hS 0 0 rfl rfl (zi_in (by decide) (by decide)) dX8_isWalker_105 (fun H locs hP hD hS => ?_)
      have hP : va_P D kl [(sl, .inl (cI, 1653, .inl (upd (upd (upd (upd sf (x_7 : Int32).toNatClampNeg r_8) (x_11 : Int32).toNatClampNeg v6_3) (x_14 : Int32).toNatClampNeg (-1000000)) (1598 : Int32).toNatClampNeg x_18))), (h, .inr (7, [.ref sl, .int na, .ref zs, .ref ln, .ref ir, .ref tk, .int su, .int le, .ref tb, .int v6_0, .int v6_1, .int v6_2, .ref tr, .int tc, .ref fz, .int v6_3])), (tb, .inl (cB, 120, .inl tbf))] H := hP
      have hD : va_D A [(sl, .inl (cI, 1653, .inl (upd (upd (upd (upd sf (x_7 : Int32).toNatClampNeg r_8) (x_11 : Int32).toNatClampNeg v6_3) (x_14 : Int32).toNatClampNeg (-1000000)) (1598 : Int32).toNatClampNeg x_18))), (h, .inr (7, [.ref sl, .int na, .ref zs, .ref ln, .ref ir, .ref tk, .int su, .int le, .ref tb, .int v6_0, .int v6_1, .int v6_2, .ref tr, .int tc, .ref fz, .int v6_3])), (tb, .inl (cB, 120, .inl tbf))] := hD
      have hq_19 : (1598 : Int32).toInt = 1598 := by decide
      have ha_19 : SI (upd (upd (upd (upd sf (x_7 : Int32).toNatClampNeg r_8) (x_11 : Int32).toNatClampNeg v6_3) (x_14 : Int32).toNatClampNeg (-1000000)) (1598 : Int32).toNatClampNeg x_18) v0 := si_up ha_15 (by omega) (fun s0 a0 b0 e0 => by omega) (fun s0 a0 b0 e0 => by omega) (fun s0 k0 a0 b0 c0 d0 e0 => by omega) (by omega)
      have hi_20 : (1598 : Int32).toInt = 1598 := by decide
      have hf_20 : FRM (1596) (1653) sf (upd (upd (upd (upd sf (x_7 : Int32).toNatClampNeg r_8) (x_11 : Int32).toNatClampNeg v6_3) (x_14 : Int32).toNatClampNeg (-1000000)) (1598 : Int32).toNatClampNeg x_18) := FRM.up hf_16 (by omega)
      refine lv_aload_n hx hb dX8_isWalker_106 rfl (lv_at hl 1 rfl) ?_
      refine lv_bipush (v := 59) hx hb dX8_isWalker_107 (by decide) ?_
      have k_21 := (p_X8_isSign l D cI cB cQ H.size h sl zs ln ir tk tb tr fz na su le v6_0 v6_1 v6_2 tc v6_3 59 tbf (by omega) (by omega) (by omega) (by omega) (by omega) ⟨by decide, by decide⟩)
      refine wc_i (WC := [(h, .inr (7, [.ref sl, .int na, .ref zs, .ref ln, .ref ir, .ref tk, .int su, .int le, .ref tb, .int v6_0, .int v6_1, .int v6_2, .ref tr, .int tc, .ref fz, .int v6_3])), (tb, .inl (cB, 120, .inl tbf))]) (WR := [(sl, .inl (cI, 1653, .inl (upd (upd (upd (upd sf (x_7 : Int32).toNatClampNeg r_8) (x_11 : Int32).toNatClampNeg v6_3) (x_14 : Int32).toNatClampNeg (-1000000)) (1598 : Int32).toNatClampNeg x_18)))]) (va_runV (As := [.int 59]) (rest := []) ⟨hx, hb, hml, hown, hts⟩ k_21 (cwV 1 hts gX8_isWalker_X8_isSign rfl rfl rfl (by decide +kernel) ⟨Nat.le_of_ble_eq_true rfl, Nat.le_of_ble_eq_true rfl⟩) (wp_V hP hK hD hN [1, 2] (by decide) rfl (ci := 7) rfl rfl) rfl rfl hl.1 rfl (lv_room (Nat.le_of_ble_eq_true rfl)) dX8_isWalker_109 ⟨Nat.le_of_ble_eq_true rfl, Nat.le_of_ble_eq_true rfl⟩) hP hD hS hA [1, 2] [0] rfl rfl (by decide) (by decide) (fun r_21 => pe3 (fun v21_0 v21_1 v21_2 H locs hw_21 hP hD hS => ?_))
      clear k_21
      have hP : va_P D kl [(sl, .inl (cI, 1653, .inl (upd (upd (upd (upd sf (x_7 : Int32).toNatClampNeg r_8) (x_11 : Int32).toNatClampNeg v6_3) (x_14 : Int32).toNatClampNeg (-1000000)) (1598 : Int32).toNatClampNeg x_18))), (h, .inr (7, [.ref sl, .int na, .ref zs, .ref ln, .ref ir, .ref tk, .int su, .int le, .ref tb, .int v21_0, .int v21_1, .int v21_2, .ref tr, .int tc, .ref fz, .int v6_3])), (tb, .inl (cB, 120, .inl tbf))] H := hP
      have hD : va_D A [(sl, .inl (cI, 1653, .inl (upd (upd (upd (upd sf (x_7 : Int32).toNatClampNeg r_8) (x_11 : Int32).toNatClampNeg v6_3) (x_14 : Int32).toNatClampNeg (-1000000)) (1598 : Int32).toNatClampNeg x_18))), (h, .inr (7, [.ref sl, .int na, .ref zs, .ref ln, .ref ir, .ref tk, .int su, .int le, .ref tb, .int v21_0, .int v21_1, .int v21_2, .ref tr, .int tc, .ref fz, .int v6_3])), (tb, .inl (cB, 120, .inl tbf))] := hD
      obtain ⟨c21_0, c21_1, c21_2, c21_3⟩ := hw_21
      have c21_1 : v6_1.toInt ≤ v21_1.toInt := c21_1
      have c21_2 : 0 ≤ v21_1.toInt ∧ v21_1.toInt ≤ 120 := c21_2
      have c21_3 : 0 ≤ v21_2.toInt ∧ v21_2.toInt ≤ 120 := c21_3
      rcases c21_0 with ⟨e_21, f_21⟩ | ⟨e_21, f_21⟩
      · subst e_21
        have f_21 : ((0, v21_0.toInt, v21_2.toInt, v21_1.toInt) : TPS) = tS (tbr tbf le.toInt) (59 : Int) (0, v6_0.toInt, v6_2.toInt, v6_1.toInt) := f_21
        exact wr_z (v := 1) hx hb hr hlocks hS (v21_0, v21_1, v21_2, v6_3, (upd (upd (upd (upd sf (x_7 : Int32).toNatClampNeg r_8) (x_11 : Int32).toNatClampNeg v6_3) (x_14 : Int32).toNatClampNeg (-1000000)) (1598 : Int32).toNatClampNeg x_18)) (by exact ⟨Or.inl ⟨rfl, show ((((0, v21_0.toInt, v21_2.toInt, v21_1.toInt) : TPS), ur (upd (upd (upd (upd sf (x_7 : Int32).toNatClampNeg r_8) (x_11 : Int32).toNatClampNeg v6_3) (x_14 : Int32).toNatClampNeg (-1000000)) (1598 : Int32).toNatClampNeg x_18)) : TPT) = tpW (tbr tbf le.toInt) ((0, fu.toInt, pp.toInt, ap.toInt), ur sf) ∧ ap.toInt < v21_1.toInt ∧ (ur (upd (upd (upd (upd sf (x_7 : Int32).toNatClampNeg r_8) (x_11 : Int32).toNatClampNeg v6_3) (x_14 : Int32).toNatClampNeg (-1000000)) (1598 : Int32).toNatClampNeg x_18)).1 = (ur sf).1 ∧ (ur (upd (upd (upd (upd sf (x_7 : Int32).toNatClampNeg r_8) (x_11 : Int32).toNatClampNeg v6_3) (x_14 : Int32).toNatClampNeg (-1000000)) (1598 : Int32).toNatClampNeg x_18)).2.1 = (ur sf).2.1 from by have hL : ((0, fu.toInt, pp.toInt, x_3.toInt) : TPS) = tL 1 (0, fu.toInt, pp.toInt, ap.toInt) := tL_1 (by decide) (by omega); have hu : ur (upd (upd (upd (upd sf (x_7 : Int32).toNatClampNeg r_8) (x_11 : Int32).toNatClampNeg v6_3) (x_14 : Int32).toNatClampNeg (-1000000)) (1598 : Int32).toNatClampNeg x_18) = _ := ur_W4 hsi (by omega) (by omega) (by omega) (by omega) (by omega); have hT : ((0, v21_0.toInt, v21_2.toInt, v21_1.toInt) : TPS) = tpWt (tbr tbf le.toInt) (0, fu.toInt, pp.toInt, ap.toInt) (ur sf).1 (ur sf).2.2.1 := (by rw [f_21, f_6.1, hL]; exact (tpWt_1 (by omega)).symm); exact ⟨tpW_okr2 hT rfl (tp_ofi (by rw [← h_k]; exact c8_0.1)) hu, by omega, ((congrArg (fun u : TPU => u.1) hu).trans rfl), ((congrArg (fun u : TPU => u.2.1) hu).trans rfl)⟩⟩, show (ap.toInt ≤ v21_1.toInt) from by omega, show FRM (1596) (1653) sf (upd (upd (upd (upd sf (x_7 : Int32).toNatClampNeg r_8) (x_11 : Int32).toNatClampNeg v6_3) (x_14 : Int32).toNatClampNeg (-1000000)) (1598 : Int32).toNatClampNeg x_18) from hf_20, show 0 ≤ (v21_1 : Int32).toInt ∧ (v21_1 : Int32).toInt ≤ 120 from by omega, show 0 ≤ (v21_2 : Int32).toInt ∧ (v21_2 : Int32).toInt ≤ 120 from by omega, ha_19⟩) (hP.sub [1, 0, 2] rfl) (hD.sub [1, 0, 2] (by decide) rfl) dX8_isWalker_112 rfl
      · subst e_21
        have f_21 : tfa (tS (tbr tbf le.toInt) (59 : Int) (0, v6_0.toInt, v6_2.toInt, v6_1.toInt)) v21_0.toInt v21_2.toInt := f_21
        exact wr_z (v := 0) hx hb hr hlocks hS (v21_0, v21_1, v21_2, v6_3, (upd (upd (upd (upd sf (x_7 : Int32).toNatClampNeg r_8) (x_11 : Int32).toNatClampNeg v6_3) (x_14 : Int32).toNatClampNeg (-1000000)) (1598 : Int32).toNatClampNeg x_18)) (by exact ⟨Or.inr (⟨rfl, show tfa (tpW (tbr tbf le.toInt) ((0, fu.toInt, pp.toInt, ap.toInt), ur sf)).1 v21_0.toInt v21_2.toInt from by have hL : ((0, fu.toInt, pp.toInt, x_3.toInt) : TPS) = tL 1 (0, fu.toInt, pp.toInt, ap.toInt) := tL_1 (by decide) (by omega); show tfa (tpWt (tbr tbf le.toInt) (0, fu.toInt, pp.toInt, ap.toInt) (ur sf).1 (ur sf).2.2.1) _ _; rw [tpWt_1 (by omega), ← hL, ← f_6.1]; exact f_21⟩), show (ap.toInt ≤ v21_1.toInt) from by omega, show FRM (1596) (1653) sf (upd (upd (upd (upd sf (x_7 : Int32).toNatClampNeg r_8) (x_11 : Int32).toNatClampNeg v6_3) (x_14 : Int32).toNatClampNeg (-1000000)) (1598 : Int32).toNatClampNeg x_18) from hf_20, show 0 ≤ (v21_1 : Int32).toInt ∧ (v21_1 : Int32).toInt ≤ 120 from by omega, show 0 ≤ (v21_2 : Int32).toInt ∧ (v21_2 : Int32).toInt ≤ 120 from by omega, ha_19⟩) (hP.sub [1, 0, 2] rfl) (hD.sub [1, 0, 2] (by decide) rfl) dX8_isWalker_112 rfl
    · subst e_6
      have f_6 : tfa (tN (tbr tbf le.toInt) (0 : Int) ((ur sf).1 - 1) (0, fu.toInt, pp.toInt, x_3.toInt)) v6_0.toInt v6_2.toInt := by
        have h8 := f_6
        try rw [e_5] at h8
        exact h8
      refine lv_if_ne (tgt := 54) hx hb dX8_isWalker_49 (by decide) (fun c9 => absurd (by decide) c9) (fun _ => ?_)
      refine lv_iconst (v := 0) hx hb dX8_isWalker_52 (by decide) ?_
      exact wr_z (v := 0) hx hb hr hlocks hS (v6_0, v6_1, v6_2, v6_3, sf) (by exact ⟨Or.inr (⟨rfl, show tfa (tpW (tbr tbf le.toInt) ((0, fu.toInt, pp.toInt, ap.toInt), ur sf)).1 v6_0.toInt v6_2.toInt from by have hL : ((0, fu.toInt, pp.toInt, x_3.toInt) : TPS) = tL 1 (0, fu.toInt, pp.toInt, ap.toInt) := tL_1 (by decide) (by omega); show tfa (tpWt (tbr tbf le.toInt) (0, fu.toInt, pp.toInt, ap.toInt) (ur sf).1 (ur sf).2.2.1) _ _; rw [tpWt_1 (by omega), ← hL]; exact tfa_S (f_6)⟩), show (ap.toInt ≤ v6_1.toInt) from by omega, show FRM (1596) (1653) sf sf from FRM.refl, show 0 ≤ (v6_1 : Int32).toInt ∧ (v6_1 : Int32).toInt ≤ 120 from by omega, show 0 ≤ (v6_2 : Int32).toInt ∧ (v6_2 : Int32).toInt ≤ 120 from by omega, hsi⟩) (hP.sub [1, 0, 2] rfl) (hD.sub [1, 0, 2] (by decide) rfl) dX8_isWalker_53 rfl
  · have f_2 : (ur sf).2.2.1 = 3 := by
      have h8 := zi_eq c_2
      try rw [u_1] at h8
      exact h8
    refine lv_aload_n hx hb dX8_isWalker_14 rfl (lv_at hl 1 rfl) ?_
    refine lv_iconst (v := 3) hx hb dX8_isWalker_15 (by decide) ?_
    refine lv_aload_n hx hb dX8_isWalker_16 rfl (lv_at hl 1 rfl) ?_
    refine va_get (D := D) (ci := 7) (v := .int ap) (C := RX8) (T := TX8) (N := 16) hx hb hts (fun _ h => List.mem_cons_of_mem _ (List.mem_append_right _ h)) hown hK hP 0 rfl rfl 10 (by decide) (hts (.fieldLink RX8 62 "WinterWalkModel" "at" "I") (List.mem_of_getElem? (i := 2) rfl)) (fun _ h9 => h9) rfl dX8_isWalker_17 ?_
    have k_22 := (p_X8_fails l D cI cB cQ s.heap.size h sl zs ln ir tk tb tr fz na su le fu ap pp tc nm 3 ap (by omega) (by omega))
    refine wc_i (WC := [(h, .inr (7, [.ref sl, .int na, .ref zs, .ref ln, .ref ir, .ref tk, .int su, .int le, .ref tb, .int fu, .int ap, .int pp, .ref tr, .int tc, .ref fz, .int nm]))]) (WR := [(sl, .inl (cI, 1653, .inl sf)), (tb, .inl (cB, 120, .inl tbf))]) (va_runV (As := [.int 3, .int ap]) (rest := []) ⟨hx, hb, hml, hown, hts⟩ k_22 (cwV 2 hts gX8_isWalker_X8_fails rfl rfl rfl (by decide +kernel) ⟨Nat.le_of_ble_eq_true rfl, Nat.le_of_ble_eq_true rfl⟩) (wp_V hP hK hD hN [0] (by decide) rfl (ci := 7) rfl rfl) rfl rfl hl.1 rfl (lv_room (Nat.le_of_ble_eq_true rfl)) dX8_isWalker_20 ⟨Nat.le_of_ble_eq_true rfl, Nat.le_of_ble_eq_true rfl⟩) hP hD hS hA [0] [1, 2] rfl rfl (by decide) (by decide) (fun r_22 => pe2 (fun v22_0 v22_1 H locs hw_22 hP hD hS => ?_))
    clear k_22
    have hP : va_P D kl [(sl, .inl (cI, 1653, .inl sf)), (tb, .inl (cB, 120, .inl tbf)), (h, .inr (7, [.ref sl, .int na, .ref zs, .ref ln, .ref ir, .ref tk, .int su, .int le, .ref tb, .int v22_0, .int ap, .int v22_1, .ref tr, .int tc, .ref fz, .int nm]))] H := hP
    have hD : va_D A [(sl, .inl (cI, 1653, .inl sf)), (tb, .inl (cB, 120, .inl tbf)), (h, .inr (7, [.ref sl, .int na, .ref zs, .ref ln, .ref ir, .ref tk, .int su, .int le, .ref tb, .int v22_0, .int ap, .int v22_1, .ref tr, .int tc, .ref fz, .int nm]))] := hD
    obtain ⟨c22_0, c22_1, c22_2⟩ := hw_22
    have c22_1 : v22_0.toInt = (3 : Int) ∧ v22_1.toInt = ap.toInt := c22_1
    have c22_2 : 0 ≤ v22_1.toInt ∧ v22_1.toInt ≤ 120 := c22_2
    have e_22 := c22_0
    · subst e_22
      exact wr_z (v := 0) hx hb hr hlocks hS (v22_0, ap, v22_1, nm, sf) (by exact ⟨Or.inr (⟨rfl, show tfa (tpW (tbr tbf le.toInt) ((0, fu.toInt, pp.toInt, ap.toInt), ur sf)).1 v22_0.toInt v22_1.toInt from by show tfa (tpWt (tbr tbf le.toInt) (0, fu.toInt, pp.toInt, ap.toInt) (ur sf).1 (ur sf).2.2.1) _ _; rw [tpWt_0 (by omega)]; exact tfa_S (tfa_N (tL_r (by omega) (by omega)))⟩), show (ap.toInt ≤ ap.toInt) from by omega, show FRM (1596) (1653) sf sf from FRM.refl, show 0 ≤ (ap : Int32).toInt ∧ (ap : Int32).toInt ≤ 120 from by omega, show 0 ≤ (v22_1 : Int32).toInt ∧ (v22_1 : Int32).toInt ≤ 120 from by omega, hsi⟩) (hP.sub [2, 0, 1] rfl) (hD.sub [2, 0, 1] (by decide) rfl) dX8_isWalker_23 rfl
