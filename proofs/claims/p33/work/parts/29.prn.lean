set_option maxHeartbeats 4000000 in
set_option maxRecDepth 100000 in
theorem p_X8_isVillage (l : Launch) (D : va_G) (cI cB cQ : ClassId) (sz : Nat) (h : Nat) (sl : Nat) (zs : Nat) (ln : Nat) (ir : Nat) (tk : Nat) (tb : Nat) (tr : Nat) (fz : Nat) (na : Int32) (su : Int32) (le : Int32) (fu : Int32) (ap : Int32) (pp : Int32) (tc : Int32) (nm : Int32) (k : Int32) (sf : Nat → Int32) (tbf : Nat → Int32) (v0 : Int) (hsi : SI sf v0) (h_na : 0 ≤ na.toInt ∧ na.toInt ≤ 24) (h_le : 0 ≤ le.toInt ∧ le.toInt ≤ 120) (h_ap : 0 ≤ ap.toInt ∧ ap.toInt ≤ 120) (h_tc : 0 ≤ tc.toInt ∧ tc.toInt ≤ 16) (h_pp : 0 ≤ pp.toInt ∧ pp.toInt ≤ 120) (h_x : ap.toInt < le.toInt) : mi l yX8_isVillage wsX8_isVillage ({ frames := 2, cells := 0, slots := 0, locals := 49 }) D cI cB cQ [.ref h, .int k] sz [(h, .inr (7, [.ref sl, .int na, .ref zs, .ref ln, .ref ir, .ref tk, .int su, .int le, .ref tb, .int fu, .int ap, .int pp, .ref tr, .int tc, .ref fz, .int nm])), (sl, .inl (cI, 1653, .inl sf)), (tb, .inl (cB, 120, .inl tbf))] (fun (r : Int32) (u : Int32 × Int32 × Int32 × Int32 × (Nat → Int32)) => ((r = 1 ∧ ((((0, u.1.toInt, u.2.2.1.toInt, u.2.1.toInt) : TPS), ur u.2.2.2.2) : TPT) = tpV (tbr tbf le.toInt) ((0, fu.toInt, pp.toInt, ap.toInt), ur sf) ∧ ap.toInt < u.2.1.toInt ∧ (ur u.2.2.2.2).1 = (ur sf).1 + 1 ∧ (ur u.2.2.2.2).2.1 = (ur sf).2.1) ∨ (r = 0 ∧ tfa (tpV (tbr tbf le.toInt) ((0, fu.toInt, pp.toInt, ap.toInt), ur sf)).1 u.1.toInt u.2.2.1.toInt)) ∧ ((ap.toInt ≤ u.2.1.toInt)) ∧ (FRM (1596) (1653) sf u.2.2.2.2) ∧ (0 ≤ u.2.1.toInt ∧ u.2.1.toInt ≤ 120) ∧ (0 ≤ u.2.2.1.toInt ∧ u.2.2.1.toInt ≤ 120) ∧ (SI u.2.2.2.2 v0)) (fun u => [(h, .inr (7, [.ref sl, .int na, .ref zs, .ref ln, .ref ir, .ref tk, .int su, .int le, .ref tb, .int u.1, .int u.2.1, .int u.2.2.1, .ref tr, .int tc, .ref fz, .int u.2.2.2.1])), (sl, .inl (cI, 1653, .inl u.2.2.2.2)), (tb, .inl (cB, 120, .inl tbf))]) 0 0 := by
  refine wm_i (cc := cX8_isVillage) (maxL := 3) (ret := (some .boolean)) (by decide) rfl (Nat.le_of_ble_eq_true rfl) ?_
  intro p e s m below meth c A ls hx hb hr hml hown hts hlocks hin hP hK hD hN hA hl hS
  have hown : s.vm.findClass RX8 = some m.cls := hown
  have hl : lv_has ls 3 [(0, .ref h), (1, .int k)] := hl
  change W p l e ({ frames := 2, cells := 0, slots := 0, locals := 49 }) s m ([.ref h, .int k] : List Value).toArray below meth c s.heap [] 0 0 (MQ below (va_Qi (fun (r : Int32) (u : Int32 × Int32 × Int32 × Int32 × (Nat → Int32)) => ((r = 1 ∧ ((((0, u.1.toInt, u.2.2.1.toInt, u.2.1.toInt) : TPS), ur u.2.2.2.2) : TPT) = tpV (tbr tbf le.toInt) ((0, fu.toInt, pp.toInt, ap.toInt), ur sf) ∧ ap.toInt < u.2.1.toInt ∧ (ur u.2.2.2.2).1 = (ur sf).1 + 1 ∧ (ur u.2.2.2.2).2.1 = (ur sf).2.1) ∨ (r = 0 ∧ tfa (tpV (tbr tbf le.toInt) ((0, fu.toInt, pp.toInt, ap.toInt), ur sf)).1 u.1.toInt u.2.2.1.toInt)) ∧ ((ap.toInt ≤ u.2.1.toInt)) ∧ (FRM (1596) (1653) sf u.2.2.2.2) ∧ (0 ≤ u.2.1.toInt ∧ u.2.1.toInt ≤ 120) ∧ (0 ≤ u.2.2.1.toInt ∧ u.2.2.1.toInt ≤ 120) ∧ (SI u.2.2.2.2 v0)) (fun u t => wb D A ((fun u => [(h, .inr (7, [.ref sl, .int na, .ref zs, .ref ln, .ref ir, .ref tk, .int su, .int le, .ref tb, .int u.1, .int u.2.1, .int u.2.2.1, .ref tr, .int tc, .ref fz, .int u.2.2.2.1])), (sl, .inl (cI, 1653, .inl u.2.2.2.2)), (tb, .inl (cB, 120, .inl tbf))]) u) t) A) ([.ref h, .int k] : List Value).toArray s 0 0 A) (F0 m 0 ls [])
  refine lv_aload_n hx hb dX8_isVillage_0 rfl (lv_at hl 0 rfl) ?_
  refine va_get (D := D) (ci := 7) (v := .ref sl) (C := RX8) (T := TX8) (N := 16) hx hb hts (fun _ h => List.mem_cons_of_mem _ (List.mem_append_right _ h)) hown hK hP 0 rfl rfl 0 (by decide) (hts (.fieldLink RX8 7 "WinterWalkModel" "slot" "[I") (List.mem_of_getElem? (i := 1) rfl)) (fun _ h9 => h9) rfl dX8_isVillage_1 ?_
  refine lv_sipush (v := 1597) hx hb dX8_isVillage_4 (by decide) ?_
  refine va_iald hx hb hK hP 1 0 rfl rfl (zi_in (by decide) (by decide)) dX8_isVillage_7 ?_
  refine lv_topi (fun x_1 ex_1 => ?_)
  have f_1 : 0 ≤ x_1.toInt ∧ x_1.toInt ≤ 8 := by rw [ex_1]; exact si_v hsi (s := 28) (by decide) (by omega)
  have u_1 : x_1.toInt = (ur sf).1 := by rw [ex_1]; exact ux_v
  refine lv_istore_n (lv' := [(2, .int x_1), (0, .ref h), (1, .int k)]) hx hb dX8_isVillage_8 rfl hl (by decide) rfl (fun ls hl => ?_)
  refine lv_iload_n hx hb dX8_isVillage_9 rfl (lv_at hl 0 rfl) ?_
  refine lv_bipush (v := 8) hx hb dX8_isVillage_10 (by decide) ?_
  refine lv_icmp_ne (tgt := 25) hx hb dX8_isVillage_12 (by decide) (fun c_2 => ?_) (fun c_2 => ?_)
  · have f_2 : ¬ (ur sf).1 = 8 := by
      have h8 := zi_ne c_2
      try rw [u_1] at h8
      exact h8
    refine lv_aload_n hx hb dX8_isVillage_25 rfl (lv_at hl 1 rfl) ?_
    refine lv_dup hx hb dX8_isVillage_26 rfl ?_
    refine va_get (D := D) (ci := 7) (v := .int ap) (C := RX8) (T := TX8) (N := 16) hx hb hts (fun _ h => List.mem_cons_of_mem _ (List.mem_append_right _ h)) hown hK hP 0 rfl rfl 10 (by decide) (hts (.fieldLink RX8 62 "WinterWalkModel" "at" "I") (List.mem_of_getElem? (i := 2) rfl)) (fun _ h9 => h9) rfl dX8_isVillage_27 ?_
    refine lv_iconst (v := 1) hx hb dX8_isVillage_30 (by decide) ?_
    refine lv_iadd hx hb dX8_isVillage_31 ?_
    refine lv_topi (fun x_3 ex_3 => ?_)
    have e_3 : x_3.toInt = ap.toInt + 1 := by rw [ex_3]; exact zi_add (rfl) (by decide) (by omega) (by omega)
    refine va_put (D := D) (ci := 7) (v := .int x_3) (ty := .int) (C := RX8) (T := TX8) (N := 16) hx hb hts (fun _ h => List.mem_cons_of_mem _ (List.mem_append_right _ h)) tyX8 tyX8_ok nmX8 hown hK hP hD hS 0 rfl rfl 10 (by decide) (hts (.fieldLink RX8 62 "WinterWalkModel" "at" "I") (List.mem_of_getElem? (i := 2) rfl)) (fun _ h9 => h9) rfl (by decide +kernel) rfl rfl (Nat.le_of_ble_eq_true rfl) dX8_isVillage_32 (fun H locs hP hD hS => ?_)
    have hP : va_P D kl [(h, .inr (7, [.ref sl, .int na, .ref zs, .ref ln, .ref ir, .ref tk, .int su, .int le, .ref tb, .int fu, .int x_3, .int pp, .ref tr, .int tc, .ref fz, .int nm])), (sl, .inl (cI, 1653, .inl sf)), (tb, .inl (cB, 120, .inl tbf))] H := hP
    have hD : va_D A [(h, .inr (7, [.ref sl, .int na, .ref zs, .ref ln, .ref ir, .ref tk, .int su, .int le, .ref tb, .int fu, .int x_3, .int pp, .ref tr, .int tc, .ref fz, .int nm])), (sl, .inl (cI, 1653, .inl sf)), (tb, .inl (cB, 120, .inl tbf))] := hD
    refine lv_aload_n hx hb dX8_isVillage_35 rfl (lv_at hl 1 rfl) ?_
    refine lv_iconst (v := 0) hx hb dX8_isVillage_36 (by decide) ?_
    refine lv_bipush (v := 9) hx hb dX8_isVillage_37 (by decide) ?_
    have k_4 := (p_X8_isNumber l D cI cB cQ H.size h sl zs ln ir tk tb tr fz na su le fu x_3 pp tc nm 0 9 tbf (by omega) (by omega) (by omega) (by omega) (by omega))
    refine wc_i (WC := [(h, .inr (7, [.ref sl, .int na, .ref zs, .ref ln, .ref ir, .ref tk, .int su, .int le, .ref tb, .int fu, .int x_3, .int pp, .ref tr, .int tc, .ref fz, .int nm])), (tb, .inl (cB, 120, .inl tbf))]) (WR := [(sl, .inl (cI, 1653, .inl sf))]) (va_runV (As := [.int 0, .int 9]) (rest := []) ⟨hx, hb, hml, hown, hts⟩ k_4 (cwV 2 hts gX8_isVillage_X8_isNumber rfl rfl rfl (by decide +kernel) ⟨Nat.le_of_ble_eq_true rfl, Nat.le_of_ble_eq_true rfl⟩) (wp_V hP hK hD hN [0, 2] (by decide) rfl (ci := 7) rfl rfl) rfl rfl hl.1 rfl (lv_room (Nat.le_of_ble_eq_true rfl)) dX8_isVillage_39 ⟨Nat.le_of_ble_eq_true rfl, Nat.le_of_ble_eq_true rfl⟩) hP hD hS hA [0, 2] [1] rfl rfl (by decide) (by decide) (fun r_4 => pe4 (fun v4_0 v4_1 v4_2 v4_3 H locs hw_4 hP hD hS => ?_))
    clear k_4
    have hP : va_P D kl [(sl, .inl (cI, 1653, .inl sf)), (h, .inr (7, [.ref sl, .int na, .ref zs, .ref ln, .ref ir, .ref tk, .int su, .int le, .ref tb, .int v4_0, .int v4_1, .int v4_2, .ref tr, .int tc, .ref fz, .int v4_3])), (tb, .inl (cB, 120, .inl tbf))] H := hP
    have hD : va_D A [(sl, .inl (cI, 1653, .inl sf)), (h, .inr (7, [.ref sl, .int na, .ref zs, .ref ln, .ref ir, .ref tk, .int su, .int le, .ref tb, .int v4_0, .int v4_1, .int v4_2, .ref tr, .int tc, .ref fz, .int v4_3])), (tb, .inl (cB, 120, .inl tbf))] := hD
    obtain ⟨c4_0, c4_1, c4_2, c4_3⟩ := hw_4
    have c4_1 : x_3.toInt ≤ v4_1.toInt := c4_1
    have c4_2 : 0 ≤ v4_1.toInt ∧ v4_1.toInt ≤ 120 := c4_2
    have c4_3 : 0 ≤ v4_2.toInt ∧ v4_2.toInt ≤ 120 := c4_3
    rcases c4_0 with ⟨e_4, f_4⟩ | ⟨e_4, f_4⟩
    · subst e_4
      have f_4 : ((0, v4_0.toInt, v4_2.toInt, v4_1.toInt) : TPS) = tN (tbr tbf le.toInt) (0 : Int) (9 : Int) (0, fu.toInt, pp.toInt, x_3.toInt) ∧ v4_3.toInt = tV (tbr tbf le.toInt) (0 : Int) (9 : Int) (0, fu.toInt, pp.toInt, x_3.toInt) ∧ ((0 : Int) ≤ v4_3.toInt ∧ v4_3.toInt ≤ (9 : Int)) := f_4
      refine lv_if_ne (tgt := 47) hx hb dX8_isVillage_42 (by decide) (fun _ => ?_) (fun c9 => absurd c9 (by decide))
      refine lv_aload_n hx hb dX8_isVillage_47 rfl (lv_at hl 1 rfl) ?_
      refine va_get (D := D) (ci := 7) (v := .ref sl) (C := RX8) (T := TX8) (N := 16) hx hb hts (fun _ h => List.mem_cons_of_mem _ (List.mem_append_right _ h)) hown hK hP 1 rfl rfl 0 (by decide) (hts (.fieldLink RX8 7 "WinterWalkModel" "slot" "[I") (List.mem_of_getElem? (i := 1) rfl)) (fun _ h9 => h9) rfl dX8_isVillage_48 ?_
      refine lv_sipush (v := 1600) hx hb dX8_isVillage_51 (by decide) ?_
      refine lv_iload_n hx hb dX8_isVillage_54 rfl (lv_at hl 0 rfl) ?_
      refine lv_iadd hx hb dX8_isVillage_55 ?_
      refine lv_topi (fun x_5 ex_5 => ?_)
      have e_5 : x_5.toInt = 1600 + (ur sf).1 := by rw [ex_5]; exact zi_add (by decide) (u_1) (by omega) (by omega)
      refine lv_iload_n hx hb dX8_isVillage_56 rfl (lv_at hl 2 rfl) ?_
      refine lv_bipush (v := 103) hx hb dX8_isVillage_57 (by decide) ?_
      refine lv_icmp_ne (tgt := 69) hx hb dX8_isVillage_59 (by decide) (fun c_6 => ?_) (fun c_6 => ?_)
      · have f_6 : ¬ k.toInt = 103 := zi_ne c_6
        refine lv_aload_n hx hb dX8_isVillage_69 rfl (lv_at hl 1 rfl) ?_
        refine va_get (D := D) (ci := 7) (v := .int v4_3) (C := RX8) (T := TX8) (N := 16) hx hb hts (fun _ h => List.mem_cons_of_mem _ (List.mem_append_right _ h)) hown hK hP 1 rfl rfl 15 (by decide) (hts (.fieldLink RX8 83 "WinterWalkModel" "number" "I") (List.mem_of_getElem? (i := 3) rfl)) (fun _ h9 => h9) rfl dX8_isVillage_70 ?_
        refine lv_ineg hx hb dX8_isVillage_73 ?_
        refine lv_topi (fun x_7 ex_7 => ?_)
        clear ex_7
        refine va_iast hx hb hK hP hD hS 0 0 rfl rfl (zi_in (by omega) (by omega)) dX8_isVillage_74 (fun H locs hP hD hS => ?_)
        have hP : va_P D kl [(sl, .inl (cI, 1653, .inl (upd sf (x_5 : Int32).toNatClampNeg x_7))), (h, .inr (7, [.ref sl, .int na, .ref zs, .ref ln, .ref ir, .ref tk, .int su, .int le, .ref tb, .int v4_0, .int v4_1, .int v4_2, .ref tr, .int tc, .ref fz, .int v4_3])), (tb, .inl (cB, 120, .inl tbf))] H := hP
        have hD : va_D A [(sl, .inl (cI, 1653, .inl (upd sf (x_5 : Int32).toNatClampNeg x_7))), (h, .inr (7, [.ref sl, .int na, .ref zs, .ref ln, .ref ir, .ref tk, .int su, .int le, .ref tb, .int v4_0, .int v4_1, .int v4_2, .ref tr, .int tc, .ref fz, .int v4_3])), (tb, .inl (cB, 120, .inl tbf))] := hD
        have ha_8 : SI (upd sf (x_5 : Int32).toNatClampNeg x_7) v0 := si_up hsi (by omega) (fun s0 a0 b0 e0 => by omega) (fun s0 a0 b0 e0 => by omega) (fun s0 k0 a0 b0 c0 d0 e0 => by omega) (by omega)
        have hf_9 : FRM (1596) (1653) sf (upd sf (x_5 : Int32).toNatClampNeg x_7) := FRM.up FRM.refl (by omega)
        refine lv_aload_n hx hb dX8_isVillage_75 rfl (lv_at hl 1 rfl) ?_
        refine lv_bipush (v := 44) hx hb dX8_isVillage_76 (by decide) ?_
        have k_10 := (p_X8_isSign l D cI cB cQ H.size h sl zs ln ir tk tb tr fz na su le v4_0 v4_1 v4_2 tc v4_3 44 tbf (by omega) (by omega) (by omega) (by omega) (by omega) ⟨by decide, by decide⟩)
        refine wc_i (WC := [(h, .inr (7, [.ref sl, .int na, .ref zs, .ref ln, .ref ir, .ref tk, .int su, .int le, .ref tb, .int v4_0, .int v4_1, .int v4_2, .ref tr, .int tc, .ref fz, .int v4_3])), (tb, .inl (cB, 120, .inl tbf))]) (WR := [(sl, .inl (cI, 1653, .inl (upd sf (x_5 : Int32).toNatClampNeg x_7)))]) (va_runV (As := [.int 44]) (rest := []) ⟨hx, hb, hml, hown, hts⟩ k_10 (cwV 1 hts gX8_isVillage_X8_isSign rfl rfl rfl (by decide +kernel) ⟨Nat.le_of_ble_eq_true rfl, Nat.le_of_ble_eq_true rfl⟩) (wp_V hP hK hD hN [1, 2] (by decide) rfl (ci := 7) rfl rfl) rfl rfl hl.1 rfl (lv_room (Nat.le_of_ble_eq_true rfl)) dX8_isVillage_78 ⟨Nat.le_of_ble_eq_true rfl, Nat.le_of_ble_eq_true rfl⟩) hP hD hS hA [1, 2] [0] rfl rfl (by decide) (by decide) (fun r_10 => pe3 (fun v10_0 v10_1 v10_2 H locs hw_10 hP hD hS => ?_))
        clear k_10
        have hP : va_P D kl [(sl, .inl (cI, 1653, .inl (upd sf (x_5 : Int32).toNatClampNeg x_7))), (h, .inr (7, [.ref sl, .int na, .ref zs, .ref ln, .ref ir, .ref tk, .int su, .int le, .ref tb, .int v10_0, .int v10_1, .int v10_2, .ref tr, .int tc, .ref fz, .int v4_3])), (tb, .inl (cB, 120, .inl tbf))] H := hP
        have hD : va_D A [(sl, .inl (cI, 1653, .inl (upd sf (x_5 : Int32).toNatClampNeg x_7))), (h, .inr (7, [.ref sl, .int na, .ref zs, .ref ln, .ref ir, .ref tk, .int su, .int le, .ref tb, .int v10_0, .int v10_1, .int v10_2, .ref tr, .int tc, .ref fz, .int v4_3])), (tb, .inl (cB, 120, .inl tbf))] := hD
        obtain ⟨c10_0, c10_1, c10_2, c10_3⟩ := hw_10
        have c10_1 : v4_1.toInt ≤ v10_1.toInt := c10_1
        have c10_2 : 0 ≤ v10_1.toInt ∧ v10_1.toInt ≤ 120 := c10_2
        have c10_3 : 0 ≤ v10_2.toInt ∧ v10_2.toInt ≤ 120 := c10_3
        rcases c10_0 with ⟨e_10, f_10⟩ | ⟨e_10, f_10⟩
        · subst e_10
          have f_10 : ((0, v10_0.toInt, v10_2.toInt, v10_1.toInt) : TPS) = tS (tbr tbf le.toInt) (44 : Int) (0, v4_0.toInt, v4_2.toInt, v4_1.toInt) := f_10
          refine lv_if_eq (tgt := 94) hx hb dX8_isVillage_81 (by decide) (fun c9 => absurd c9 (by decide)) (fun _ => ?_)
          refine lv_aload_n hx hb dX8_isVillage_84 rfl (lv_at hl 1 rfl) ?_
          refine lv_iconst (v := 0) hx hb dX8_isVillage_85 (by decide) ?_
          refine lv_bipush (v := 20) hx hb dX8_isVillage_86 (by decide) ?_
          have k_11 := (p_X8_isNumber l D cI cB cQ H.size h sl zs ln ir tk tb tr fz na su le v10_0 v10_1 v10_2 tc v4_3 0 20 tbf (by omega) (by omega) (by omega) (by omega) (by omega))
          refine wc_i (WC := [(h, .inr (7, [.ref sl, .int na, .ref zs, .ref ln, .ref ir, .ref tk, .int su, .int le, .ref tb, .int v10_0, .int v10_1, .int v10_2, .ref tr, .int tc, .ref fz, .int v4_3])), (tb, .inl (cB, 120, .inl tbf))]) (WR := [(sl, .inl (cI, 1653, .inl (upd sf (x_5 : Int32).toNatClampNeg x_7)))]) (va_runV (As := [.int 0, .int 20]) (rest := []) ⟨hx, hb, hml, hown, hts⟩ k_11 (cwV 2 hts gX8_isVillage_X8_isNumber rfl rfl rfl (by decide +kernel) ⟨Nat.le_of_ble_eq_true rfl, Nat.le_of_ble_eq_true rfl⟩) (wp_V hP hK hD hN [1, 2] (by decide) rfl (ci := 7) rfl rfl) rfl rfl hl.1 rfl (lv_room (Nat.le_of_ble_eq_true rfl)) dX8_isVillage_88 ⟨Nat.le_of_ble_eq_true rfl, Nat.le_of_ble_eq_true rfl⟩) hP hD hS hA [1, 2] [0] rfl rfl (by decide) (by decide) (fun r_11 => pe4 (fun v11_0 v11_1 v11_2 v11_3 H locs hw_11 hP hD hS => ?_))
          clear k_11
          have hP : va_P D kl [(sl, .inl (cI, 1653, .inl (upd sf (x_5 : Int32).toNatClampNeg x_7))), (h, .inr (7, [.ref sl, .int na, .ref zs, .ref ln, .ref ir, .ref tk, .int su, .int le, .ref tb, .int v11_0, .int v11_1, .int v11_2, .ref tr, .int tc, .ref fz, .int v11_3])), (tb, .inl (cB, 120, .inl tbf))] H := hP
          have hD : va_D A [(sl, .inl (cI, 1653, .inl (upd sf (x_5 : Int32).toNatClampNeg x_7))), (h, .inr (7, [.ref sl, .int na, .ref zs, .ref ln, .ref ir, .ref tk, .int su, .int le, .ref tb, .int v11_0, .int v11_1, .int v11_2, .ref tr, .int tc, .ref fz, .int v11_3])), (tb, .inl (cB, 120, .inl tbf))] := hD
          obtain ⟨c11_0, c11_1, c11_2, c11_3⟩ := hw_11
          have c11_1 : v10_1.toInt ≤ v11_1.toInt := c11_1
          have c11_2 : 0 ≤ v11_1.toInt ∧ v11_1.toInt ≤ 120 := c11_2
          have c11_3 : 0 ≤ v11_2.toInt ∧ v11_2.toInt ≤ 120 := c11_3
          rcases c11_0 with ⟨e_11, f_11⟩ | ⟨e_11, f_11⟩
          · subst e_11
            have f_11 : ((0, v11_0.toInt, v11_2.toInt, v11_1.toInt) : TPS) = tN (tbr tbf le.toInt) (0 : Int) (20 : Int) (0, v10_0.toInt, v10_2.toInt, v10_1.toInt) ∧ v11_3.toInt = tV (tbr tbf le.toInt) (0 : Int) (20 : Int) (0, v10_0.toInt, v10_2.toInt, v10_1.toInt) ∧ ((0 : Int) ≤ v11_3.toInt ∧ v11_3.toInt ≤ (20 : Int)) := f_11
            refine lv_if_ne (tgt := 96) hx hb dX8_isVillage_91 (by decide) (fun _ => ?_) (fun c9 => absurd c9 (by decide))
            refine lv_aload_n hx hb dX8_isVillage_96 rfl (lv_at hl 1 rfl) ?_
            refine va_get (D := D) (ci := 7) (v := .ref sl) (C := RX8) (T := TX8) (N := 16) hx hb hts (fun _ h => List.mem_cons_of_mem _ (List.mem_append_right _ h)) hown hK hP 1 rfl rfl 0 (by decide) (hts (.fieldLink RX8 7 "WinterWalkModel" "slot" "[I") (List.mem_of_getElem? (i := 1) rfl)) (fun _ h9 => h9) rfl dX8_isVillage_97 ?_
            refine lv_sipush (v := 1619) hx hb dX8_isVillage_100 (by decide) ?_
            refine lv_iload_n hx hb dX8_isVillage_103 rfl (lv_at hl 0 rfl) ?_
            refine lv_iadd hx hb dX8_isVillage_104 ?_
            refine lv_topi (fun x_12 ex_12 => ?_)
            have e_12 : x_12.toInt = 1619 + (ur sf).1 := by rw [ex_12]; exact zi_add (by decide) (u_1) (by omega) (by omega)
            refine lv_aload_n hx hb dX8_isVillage_105 rfl (lv_at hl 1 rfl) ?_
            refine va_get (D := D) (ci := 7) (v := .int v11_3) (C := RX8) (T := TX8) (N := 16) hx hb hts (fun _ h => List.mem_cons_of_mem _ (List.mem_append_right _ h)) hown hK hP 1 rfl rfl 15 (by decide) (hts (.fieldLink RX8 83 "WinterWalkModel" "number" "I") (List.mem_of_getElem? (i := 3) rfl)) (fun _ h9 => h9) rfl dX8_isVillage_106 ?_
            refine va_iast hx hb hK hP hD hS 0 0 rfl rfl (zi_in (by omega) (by omega)) dX8_isVillage_109 (fun H locs hP hD hS => ?_)
            have hP : va_P D kl [(sl, .inl (cI, 1653, .inl (upd (upd sf (x_5 : Int32).toNatClampNeg x_7) (x_12 : Int32).toNatClampNeg v11_3))), (h, .inr (7, [.ref sl, .int na, .ref zs, .ref ln, .ref ir, .ref tk, .int su, .int le, .ref tb, .int v11_0, .int v11_1, .int v11_2, .ref tr, .int tc, .ref fz, .int v11_3])), (tb, .inl (cB, 120, .inl tbf))] H := hP
            have hD : va_D A [(sl, .inl (cI, 1653, .inl (upd (upd sf (x_5 : Int32).toNatClampNeg x_7) (x_12 : Int32).toNatClampNeg v11_3))), (h, .inr (7, [.ref sl, .int na, .ref zs, .ref ln, .ref ir, .ref tk, .int su, .int le, .ref tb, .int v11_0, .int v11_1, .int v11_2, .ref tr, .int tc, .ref fz, .int v11_3])), (tb, .inl (cB, 120, .inl tbf))] := hD
            have ha_13 : SI (upd (upd sf (x_5 : Int32).toNatClampNeg x_7) (x_12 : Int32).toNatClampNeg v11_3) v0 := si_up ha_8 (by omega) (fun s0 a0 b0 e0 => by omega) (fun s0 a0 b0 e0 => by omega) (fun s0 k0 a0 b0 c0 d0 e0 => by omega) (by omega)
            have hf_14 : FRM (1596) (1653) sf (upd (upd sf (x_5 : Int32).toNatClampNeg x_7) (x_12 : Int32).toNatClampNeg v11_3) := FRM.up hf_9 (by omega)
            refine lv_aload_n hx hb dX8_isVillage_110 rfl (lv_at hl 1 rfl) ?_
            refine va_get (D := D) (ci := 7) (v := .ref sl) (C := RX8) (T := TX8) (N := 16) hx hb hts (fun _ h => List.mem_cons_of_mem _ (List.mem_append_right _ h)) hown hK hP 1 rfl rfl 0 (by decide) (hts (.fieldLink RX8 7 "WinterWalkModel" "slot" "[I") (List.mem_of_getElem? (i := 1) rfl)) (fun _ h9 => h9) rfl dX8_isVillage_111 ?_
            refine lv_sipush (v := 1597) hx hb dX8_isVillage_114 (by decide) ?_
            refine lv_dup2_11 hx hb dX8_isVillage_117 rfl rfl ?_
            refine va_iald hx hb hK hP 0 0 rfl rfl (zi_in (by decide) (by decide)) dX8_isVillage_118 ?_
            refine lv_topi (fun x_15 ex_15 => ?_)
            have f_15 : 0 ≤ x_15.toInt ∧ x_15.toInt ≤ 8 := by rw [ex_15]; exact si_v ha_13 (s := 28) (by decide) (by omega)
            have g_15 : x_15.toInt = x_1.toInt := by have hk0 : (1597 : Int32).toInt = 1597 := (by decide); rw [ex_15, zu_ne (by omega) (by omega) (by omega), zu_ne (by omega) (by omega) (by omega), ex_1]
            refine lv_iconst (v := 1) hx hb dX8_isVillage_119 (by decide) ?_
            refine lv_iadd hx hb dX8_isVillage_120 ?_
            refine lv_topi (fun x_16 ex_16 => ?_)
            have e_16 : x_16.toInt = x_15.toInt + 1 := by rw [ex_16]; exact zi_add (rfl) (by decide) (by omega) (by omega)
            refine va_iast hx hb hK hP hD hS 0 0 rfl rfl (zi_in (by decide) (by decide)) dX8_isVillage_121 (fun H locs hP hD hS => ?_)
            have hP : va_P D kl [(sl, .inl (cI, 1653, .inl (upd (upd (upd sf (x_5 : Int32).toNatClampNeg x_7) (x_12 : Int32).toNatClampNeg v11_3) (1597 : Int32).toNatClampNeg x_16))), (h, .inr (7, [.ref sl, .int na, .ref zs, .ref ln, .ref ir, .ref tk, .int su, .int le, .ref tb, .int v11_0, .int v11_1, .int v11_2, .ref tr, .int tc, .ref fz, .int v11_3])), (tb, .inl (cB, 120, .inl tbf))] H := hP
            have hD : va_D A [(sl, .inl (cI, 1653, .inl (upd (upd (upd sf (x_5 : Int32).toNatClampNeg x_7) (x_12 : Int32).toNatClampNeg v11_3) (1597 : Int32).toNatClampNeg x_16))), (h, .inr (7, [.ref sl, .int na, .ref zs, .ref ln, .ref ir, .ref tk, .int su, .int le, .ref tb, .int v11_0, .int v11_1, .int v11_2, .ref tr, .int tc, .ref fz, .int v11_3])), (tb, .inl (cB, 120, .inl tbf))] := hD
            have hq_17 : (1597 : Int32).toInt = 1597 := by decide
            have ha_17 : SI (upd (upd (upd sf (x_5 : Int32).toNatClampNeg x_7) (x_12 : Int32).toNatClampNeg v11_3) (1597 : Int32).toNatClampNeg x_16) v0 := si_up ha_13 (by omega) (fun s0 a0 b0 e0 => by omega) (fun s0 a0 b0 e0 => by omega) (fun s0 k0 a0 b0 c0 d0 e0 => by omega) (by omega)
            have hi_18 : (1597 : Int32).toInt = 1597 := by decide
            have hf_18 : FRM (1596) (1653) sf (upd (upd (upd sf (x_5 : Int32).toNatClampNeg x_7) (x_12 : Int32).toNatClampNeg v11_3) (1597 : Int32).toNatClampNeg x_16) := FRM.up hf_14 (by omega)
            refine lv_aload_n hx hb dX8_isVillage_122 rfl (lv_at hl 1 rfl) ?_
            refine lv_bipush (v := 59) hx hb dX8_isVillage_123 (by decide) ?_
            have k_19 := (p_X8_isSign l D cI cB cQ H.size h sl zs ln ir tk tb tr fz na su le v11_0 v11_1 v11_2 tc v11_3 59 tbf (by omega) (by omega) (by omega) (by omega) (by omega) ⟨by decide, by decide⟩)
            refine wc_i (WC := [(h, .inr (7, [.ref sl, .int na, .ref zs, .ref ln, .ref ir, .ref tk, .int su, .int le, .ref tb, .int v11_0, .int v11_1, .int v11_2, .ref tr, .int tc, .ref fz, .int v11_3])), (tb, .inl (cB, 120, .inl tbf))]) (WR := [(sl, .inl (cI, 1653, .inl (upd (upd (upd sf (x_5 : Int32).toNatClampNeg x_7) (x_12 : Int32).toNatClampNeg v11_3) (1597 : Int32).toNatClampNeg x_16)))]) (va_runV (As := [.int 59]) (rest := []) ⟨hx, hb, hml, hown, hts⟩ k_19 (cwV 1 hts gX8_isVillage_X8_isSign rfl rfl rfl (by decide +kernel) ⟨Nat.le_of_ble_eq_true rfl, Nat.le_of_ble_eq_true rfl⟩) (wp_V hP hK hD hN [1, 2] (by decide) rfl (ci := 7) rfl rfl) rfl rfl hl.1 rfl (lv_room (Nat.le_of_ble_eq_true rfl)) dX8_isVillage_125 ⟨Nat.le_of_ble_eq_true rfl, Nat.le_of_ble_eq_true rfl⟩) hP hD hS hA [1, 2] [0] rfl rfl (by decide) (by decide) (fun r_19 => pe3 (fun v19_0 v19_1 v19_2 H locs hw_19 hP hD hS => ?_))
            clear k_19
            have hP : va_P D kl [(sl, .inl (cI, 1653, .inl (upd (upd (upd sf (x_5 : Int32).toNatClampNeg x_7) (x_12 : Int32).toNatClampNeg v11_3) (1597 : Int32).toNatClampNeg x_16))), (h, .inr (7, [.ref sl, .int na, .ref zs, .ref ln, .ref ir, .ref tk, .int su, .int le, .ref tb, .int v19_0, .int v19_1, .int v19_2, .ref tr, .int tc, .ref fz, .int v11_3])), (tb, .inl (cB, 120, .inl tbf))] H := hP
            have hD : va_D A [(sl, .inl (cI, 1653, .inl (upd (upd (upd sf (x_5 : Int32).toNatClampNeg x_7) (x_12 : Int32).toNatClampNeg v11_3) (1597 : Int32).toNatClampNeg x_16))), (h, .inr (7, [.ref sl, .int na, .ref zs, .ref ln, .ref ir, .ref tk, .int su, .int le, .ref tb, .int v19_0, .int v19_1, .int v19_2, .ref tr, .int tc, .ref fz, .int v11_3])), (tb, .inl (cB, 120, .inl tbf))] := hD
            obtain ⟨c19_0, c19_1, c19_2, c19_3⟩ := hw_19
            have c19_1 : v11_1.toInt ≤ v19_1.toInt := c19_1
            have c19_2 : 0 ≤ v19_1.toInt ∧ v19_1.toInt ≤ 120 := c19_2
            have c19_3 : 0 ≤ v19_2.toInt ∧ v19_2.toInt ≤ 120 := c19_3
            rcases c19_0 with ⟨e_19, f_19⟩ | ⟨e_19, f_19⟩
            · subst e_19
              have f_19 : ((0, v19_0.toInt, v19_2.toInt, v19_1.toInt) : TPS) = tS (tbr tbf le.toInt) (59 : Int) (0, v11_0.toInt, v11_2.toInt, v11_1.toInt) := f_19
              exact wr_z (v := 1) hx hb hr hlocks hS (v19_0, v19_1, v19_2, v11_3, (upd (upd (upd sf (x_5 : Int32).toNatClampNeg x_7) (x_12 : Int32).toNatClampNeg v11_3) (1597 : Int32).toNatClampNeg x_16)) (by exact ⟨Or.inl ⟨rfl, show ((((0, v19_0.toInt, v19_2.toInt, v19_1.toInt) : TPS), ur (upd (upd (upd sf (x_5 : Int32).toNatClampNeg x_7) (x_12 : Int32).toNatClampNeg v11_3) (1597 : Int32).toNatClampNeg x_16)) : TPT) = tpV (tbr tbf le.toInt) ((0, fu.toInt, pp.toInt, ap.toInt), ur sf) ∧ ap.toInt < v19_1.toInt ∧ (ur (upd (upd (upd sf (x_5 : Int32).toNatClampNeg x_7) (x_12 : Int32).toNatClampNeg v11_3) (1597 : Int32).toNatClampNeg x_16)).1 = (ur sf).1 + 1 ∧ (ur (upd (upd (upd sf (x_5 : Int32).toNatClampNeg x_7) (x_12 : Int32).toNatClampNeg v11_3) (1597 : Int32).toNatClampNeg x_16)).2.1 = (ur sf).2.1 from (by have hu : ur (upd (upd (upd sf (x_5 : Int32).toNatClampNeg x_7) (x_12 : Int32).toNatClampNeg v11_3) (1597 : Int32).toNatClampNeg x_16) = _ := ur_V3 hsi (v := (ur sf).1) (by omega) (by omega) (by omega) (by omega); exact ⟨by have hL : ((0, fu.toInt, pp.toInt, x_3.toInt) : TPS) = tL 1 (0, fu.toInt, pp.toInt, ap.toInt) := tL_1 (by decide) (by omega); have hT : ((0, v19_0.toInt, v19_2.toInt, v19_1.toInt) : TPS) = tpVt (tbr tbf le.toInt) (0, fu.toInt, pp.toInt, ap.toInt) (ur sf).1 := (by rw [f_19, f_11.1, f_10, f_4.1, hL]; exact (tpVt_1 (by omega)).symm); exact tpV_okr hT rfl (ur_V3 hsi (v := (ur sf).1) (by omega) (by omega) (by omega) (by omega)), by omega, ((congrArg (fun u : TPU => u.1) hu).trans rfl), ((congrArg (fun u : TPU => u.2.1) hu).trans rfl)⟩)⟩, show (ap.toInt ≤ v19_1.toInt) from by omega, show FRM (1596) (1653) sf (upd (upd (upd sf (x_5 : Int32).toNatClampNeg x_7) (x_12 : Int32).toNatClampNeg v11_3) (1597 : Int32).toNatClampNeg x_16) from hf_18, show 0 ≤ (v19_1 : Int32).toInt ∧ (v19_1 : Int32).toInt ≤ 120 from by omega, show 0 ≤ (v19_2 : Int32).toInt ∧ (v19_2 : Int32).toInt ≤ 120 from by omega, ha_17⟩) (hP.sub [1, 0, 2] rfl) (hD.sub [1, 0, 2] (by decide) rfl) dX8_isVillage_128 rfl
            · subst e_19
              have f_19 : tfa (tS (tbr tbf le.toInt) (59 : Int) (0, v11_0.toInt, v11_2.toInt, v11_1.toInt)) v19_0.toInt v19_2.toInt := f_19
              exact wr_z (v := 0) hx hb hr hlocks hS (v19_0, v19_1, v19_2, v11_3, (upd (upd (upd sf (x_5 : Int32).toNatClampNeg x_7) (x_12 : Int32).toNatClampNeg v11_3) (1597 : Int32).toNatClampNeg x_16)) (by exact ⟨Or.inr (⟨rfl, show tfa (tpV (tbr tbf le.toInt) ((0, fu.toInt, pp.toInt, ap.toInt), ur sf)).1 v19_0.toInt v19_2.toInt from by have hL : ((0, fu.toInt, pp.toInt, x_3.toInt) : TPS) = tL 1 (0, fu.toInt, pp.toInt, ap.toInt) := tL_1 (by decide) (by omega); show tfa (tpVt (tbr tbf le.toInt) (0, fu.toInt, pp.toInt, ap.toInt) (ur sf).1) _ _; rw [tpVt_1 (by omega), ← hL, ← f_4.1, ← f_10, ← f_11.1]; exact f_19⟩), show (ap.toInt ≤ v19_1.toInt) from by omega, show FRM (1596) (1653) sf (upd (upd (upd sf (x_5 : Int32).toNatClampNeg x_7) (x_12 : Int32).toNatClampNeg v11_3) (1597 : Int32).toNatClampNeg x_16) from hf_18, show 0 ≤ (v19_1 : Int32).toInt ∧ (v19_1 : Int32).toInt ≤ 120 from by omega, show 0 ≤ (v19_2 : Int32).toInt ∧ (v19_2 : Int32).toInt ≤ 120 from by omega, ha_17⟩) (hP.sub [1, 0, 2] rfl) (hD.sub [1, 0, 2] (by decide) rfl) dX8_isVillage_128 rfl
          · subst e_11
            have f_11 : tfa (tN (tbr tbf le.toInt) (0 : Int) (20 : Int) (0, v10_0.toInt, v10_2.toInt, v10_1.toInt)) v11_0.toInt v11_2.toInt := f_11
            refine lv_if_ne (tgt := 96) hx hb dX8_isVillage_91 (by decide) (fun c9 => absurd (by decide) c9) (fun _ => ?_)
            refine lv_iconst (v := 0) hx hb dX8_isVillage_94 (by decide) ?_
            exact wr_z (v := 0) hx hb hr hlocks hS (v11_0, v11_1, v11_2, v11_3, (upd sf (x_5 : Int32).toNatClampNeg x_7)) (by exact ⟨Or.inr (⟨rfl, show tfa (tpV (tbr tbf le.toInt) ((0, fu.toInt, pp.toInt, ap.toInt), ur sf)).1 v11_0.toInt v11_2.toInt from by have hL : ((0, fu.toInt, pp.toInt, x_3.toInt) : TPS) = tL 1 (0, fu.toInt, pp.toInt, ap.toInt) := tL_1 (by decide) (by omega); show tfa (tpVt (tbr tbf le.toInt) (0, fu.toInt, pp.toInt, ap.toInt) (ur sf).1) _ _; rw [tpVt_1 (by omega), ← hL, ← f_4.1, ← f_10]; exact tfa_S (f_11)⟩), show (ap.toInt ≤ v11_1.toInt) from by omega, show FRM (1596) (1653) sf (upd sf (x_5 : Int32).toNatClampNeg x_7) from hf_9, show 0 ≤ (v11_1 : Int32).toInt ∧ (v11_1 : Int32).toInt ≤ 120 from by omega, show 0 ≤ (v11_2 : Int32).toInt ∧ (v11_2 : Int32).toInt ≤ 120 from by omega, ha_8⟩) (hP.sub [1, 0, 2] rfl) (hD.sub [1, 0, 2] (by decide) rfl) dX8_isVillage_95 rfl
        · subst e_10
          have f_10 : tfa (tS (tbr tbf le.toInt) (44 : Int) (0, v4_0.toInt, v4_2.toInt, v4_1.toInt)) v10_0.toInt v10_2.toInt := f_10
          refine lv_if_eq (tgt := 94) hx hb dX8_isVillage_81 (by decide) (fun _ => ?_) (fun c9 => absurd (by decide) c9)
          refine lv_iconst (v := 0) hx hb dX8_isVillage_94 (by decide) ?_
          exact wr_z (v := 0) hx hb hr hlocks hS (v10_0, v10_1, v10_2, v4_3, (upd sf (x_5 : Int32).toNatClampNeg x_7)) (by exact ⟨Or.inr (⟨rfl, show tfa (tpV (tbr tbf le.toInt) ((0, fu.toInt, pp.toInt, ap.toInt), ur sf)).1 v10_0.toInt v10_2.toInt from by have hL : ((0, fu.toInt, pp.toInt, x_3.toInt) : TPS) = tL 1 (0, fu.toInt, pp.toInt, ap.toInt) := tL_1 (by decide) (by omega); show tfa (tpVt (tbr tbf le.toInt) (0, fu.toInt, pp.toInt, ap.toInt) (ur sf).1) _ _; rw [tpVt_1 (by omega), ← hL, ← f_4.1]; exact tfa_S (tfa_N (f_10))⟩), show (ap.toInt ≤ v10_1.toInt) from by omega, show FRM (1596) (1653) sf (upd sf (x_5 : Int32).toNatClampNeg x_7) from hf_9, show 0 ≤ (v10_1 : Int32).toInt ∧ (v10_1 : Int32).toInt ≤ 120 from by omega, show 0 ≤ (v10_2 : Int32).toInt ∧ (v10_2 : Int32).toInt ≤ 120 from by omega, ha_8⟩) (hP.sub [1, 0, 2] rfl) (hD.sub [1, 0, 2] (by decide) rfl) dX8_isVillage_95 rfl
      · have f_6 : k.toInt = 103 := zi_eq c_6
        refine lv_aload_n hx hb dX8_isVillage_62 rfl (lv_at hl 1 rfl) ?_
        refine va_get (D := D) (ci := 7) (v := .int v4_3) (C := RX8) (T := TX8) (N := 16) hx hb hts (fun _ h => List.mem_cons_of_mem _ (List.mem_append_right _ h)) hown hK hP 1 rfl rfl 15 (by decide) (hts (.fieldLink RX8 83 "WinterWalkModel" "number" "I") (List.mem_of_getElem? (i := 3) rfl)) (fun _ h9 => h9) rfl dX8_isVillage_63 ?_
        refine lv_goto (tgt := 74) hx hb dX8_isVillage_66 (by decide) ?_
        refine va_iast hx hb hK hP hD hS 0 0 rfl rfl (zi_in (by omega) (by omega)) dX8_isVillage_74 (fun H locs hP hD hS => ?_)
        have hP : va_P D kl [(sl, .inl (cI, 1653, .inl (upd sf (x_5 : Int32).toNatClampNeg v4_3))), (h, .inr (7, [.ref sl, .int na, .ref zs, .ref ln, .ref ir, .ref tk, .int su, .int le, .ref tb, .int v4_0, .int v4_1, .int v4_2, .ref tr, .int tc, .ref fz, .int v4_3])), (tb, .inl (cB, 120, .inl tbf))] H := hP
        have hD : va_D A [(sl, .inl (cI, 1653, .inl (upd sf (x_5 : Int32).toNatClampNeg v4_3))), (h, .inr (7, [.ref sl, .int na, .ref zs, .ref ln, .ref ir, .ref tk, .int su, .int le, .ref tb, .int v4_0, .int v4_1, .int v4_2, .ref tr, .int tc, .ref fz, .int v4_3])), (tb, .inl (cB, 120, .inl tbf))] := hD
        have ha_20 : SI (upd sf (x_5 : Int32).toNatClampNeg v4_3) v0 := si_up hsi (by omega) (fun s0 a0 b0 e0 => by omega) (fun s0 a0 b0 e0 => by omega) (fun s0 k0 a0 b0 c0 d0 e0 => by omega) (by omega)
        have hf_21 : FRM (1596) (1653) sf (upd sf (x_5 : Int32).toNatClampNeg v4_3) := FRM.up FRM.refl (by omega)
        refine lv_aload_n hx hb dX8_isVillage_75 rfl (lv_at hl 1 rfl) ?_
        refine lv_bipush (v := 44) hx hb dX8_isVillage_76 (by decide) ?_
        have k_22 := (p_X8_isSign l D cI cB cQ H.size h sl zs ln ir tk tb tr fz na su le v4_0 v4_1 v4_2 tc v4_3 44 tbf (by omega) (by omega) (by omega) (by omega) (by omega) ⟨by decide, by decide⟩)
        refine wc_i (WC := [(h, .inr (7, [.ref sl, .int na, .ref zs, .ref ln, .ref ir, .ref tk, .int su, .int le, .ref tb, .int v4_0, .int v4_1, .int v4_2, .ref tr, .int tc, .ref fz, .int v4_3])), (tb, .inl (cB, 120, .inl tbf))]) (WR := [(sl, .inl (cI, 1653, .inl (upd sf (x_5 : Int32).toNatClampNeg v4_3)))]) (va_runV (As := [.int 44]) (rest := []) ⟨hx, hb, hml, hown, hts⟩ k_22 (cwV 1 hts gX8_isVillage_X8_isSign rfl rfl rfl (by decide +kernel) ⟨Nat.le_of_ble_eq_true rfl, Nat.le_of_ble_eq_true rfl⟩) (wp_V hP hK hD hN [1, 2] (by decide) rfl (ci := 7) rfl rfl) rfl rfl hl.1 rfl (lv_room (Nat.le_of_ble_eq_true rfl)) dX8_isVillage_78 ⟨Nat.le_of_ble_eq_true rfl, Nat.le_of_ble_eq_true rfl⟩) hP hD hS hA [1, 2] [0] rfl rfl (by decide) (by decide) (fun r_22 => pe3 (fun v22_0 v22_1 v22_2 H locs hw_22 hP hD hS => ?_))
        clear k_22
        have hP : va_P D kl [(sl, .inl (cI, 1653, .inl (upd sf (x_5 : Int32).toNatClampNeg v4_3))), (h, .inr (7, [.ref sl, .int na, .ref zs, .ref ln, .ref ir, .ref tk, .int su, .int le, .ref tb, .int v22_0, .int v22_1, .int v22_2, .ref tr, .int tc, .ref fz, .int v4_3])), (tb, .inl (cB, 120, .inl tbf))] H := hP
        have hD : va_D A [(sl, .inl (cI, 1653, .inl (upd sf (x_5 : Int32).toNatClampNeg v4_3))), (h, .inr (7, [.ref sl, .int na, .ref zs, .ref ln, .ref ir, .ref tk, .int su, .int le, .ref tb, .int v22_0, .int v22_1, .int v22_2, .ref tr, .int tc, .ref fz, .int v4_3])), (tb, .inl (cB, 120, .inl tbf))] := hD
        obtain ⟨c22_0, c22_1, c22_2, c22_3⟩ := hw_22
        have c22_1 : v4_1.toInt ≤ v22_1.toInt := c22_1
        have c22_2 : 0 ≤ v22_1.toInt ∧ v22_1.toInt ≤ 120 := c22_2
        have c22_3 : 0 ≤ v22_2.toInt ∧ v22_2.toInt ≤ 120 := c22_3
        rcases c22_0 with ⟨e_22, f_22⟩ | ⟨e_22, f_22⟩
        · subst e_22
          have f_22 : ((0, v22_0.toInt, v22_2.toInt, v22_1.toInt) : TPS) = tS (tbr tbf le.toInt) (44 : Int) (0, v4_0.toInt, v4_2.toInt, v4_1.toInt) := f_22
          refine lv_if_eq (tgt := 94) hx hb dX8_isVillage_81 (by decide) (fun c9 => absurd c9 (by decide)) (fun _ => ?_)
          refine lv_aload_n hx hb dX8_isVillage_84 rfl (lv_at hl 1 rfl) ?_
          refine lv_iconst (v := 0) hx hb dX8_isVillage_85 (by decide) ?_
          refine lv_bipush (v := 20) hx hb dX8_isVillage_86 (by decide) ?_
          have k_23 := (p_X8_isNumber l D cI cB cQ H.size h sl zs ln ir tk tb tr fz na su le v22_0 v22_1 v22_2 tc v4_3 0 20 tbf (by omega) (by omega) (by omega) (by omega) (by omega))
          refine wc_i (WC := [(h, .inr (7, [.ref sl, .int na, .ref zs, .ref ln, .ref ir, .ref tk, .int su, .int le, .ref tb, .int v22_0, .int v22_1, .int v22_2, .ref tr, .int tc, .ref fz, .int v4_3])), (tb, .inl (cB, 120, .inl tbf))]) (WR := [(sl, .inl (cI, 1653, .inl (upd sf (x_5 : Int32).toNatClampNeg v4_3)))]) (va_runV (As := [.int 0, .int 20]) (rest := []) ⟨hx, hb, hml, hown, hts⟩ k_23 (cwV 2 hts gX8_isVillage_X8_isNumber rfl rfl rfl (by decide +kernel) ⟨Nat.le_of_ble_eq_true rfl, Nat.le_of_ble_eq_true rfl⟩) (wp_V hP hK hD hN [1, 2] (by decide) rfl (ci := 7) rfl rfl) rfl rfl hl.1 rfl (lv_room (Nat.le_of_ble_eq_true rfl)) dX8_isVillage_88 ⟨Nat.le_of_ble_eq_true rfl, Nat.le_of_ble_eq_true rfl⟩) hP hD hS hA [1, 2] [0] rfl rfl (by decide) (by decide) (fun r_23 => pe4 (fun v23_0 v23_1 v23_2 v23_3 H locs hw_23 hP hD hS => ?_))
          clear k_23
          have hP : va_P D kl [(sl, .inl (cI, 1653, .inl (upd sf (x_5 : Int32).toNatClampNeg v4_3))), (h, .inr (7, [.ref sl, .int na, .ref zs, .ref ln, .ref ir, .ref tk, .int su, .int le, .ref tb, .int v23_0, .int v23_1, .int v23_2, .ref tr, .int tc, .ref fz, .int v23_3])), (tb, .inl (cB, 120, .inl tbf))] H := hP
          have hD : va_D A [(sl, .inl (cI, 1653, .inl (upd sf (x_5 : Int32).toNatClampNeg v4_3))), (h, .inr (7, [.ref sl, .int na, .ref zs, .ref ln, .ref ir, .ref tk, .int su, .int le, .ref tb, .int v23_0, .int v23_1, .int v23_2, .ref tr, .int tc, .ref fz, .int v23_3])), (tb, .inl (cB, 120, .inl tbf))] := hD
          obtain ⟨c23_0, c23_1, c23_2, c23_3⟩ := hw_23
          have c23_1 : v22_1.toInt ≤ v23_1.toInt := c23_1
          have c23_2 : 0 ≤ v23_1.toInt ∧ v23_1.toInt ≤ 120 := c23_2
          have c23_3 : 0 ≤ v23_2.toInt ∧ v23_2.toInt ≤ 120 := c23_3
          rcases c23_0 with ⟨e_23, f_23⟩ | ⟨e_23, f_23⟩
          · subst e_23
            have f_23 : ((0, v23_0.toInt, v23_2.toInt, v23_1.toInt) : TPS) = tN (tbr tbf le.toInt) (0 : Int) (20 : Int) (0, v22_0.toInt, v22_2.toInt, v22_1.toInt) ∧ v23_3.toInt = tV (tbr tbf le.toInt) (0 : Int) (20 : Int) (0, v22_0.toInt, v22_2.toInt, v22_1.toInt) ∧ ((0 : Int) ≤ v23_3.toInt ∧ v23_3.toInt ≤ (20 : Int)) := f_23
            refine lv_if_ne (tgt := 96) hx hb dX8_isVillage_91 (by decide) (fun _ => ?_) (fun c9 => absurd c9 (by decide))
            refine lv_aload_n hx hb dX8_isVillage_96 rfl (lv_at hl 1 rfl) ?_
            refine va_get (D := D) (ci := 7) (v := .ref sl) (C := RX8) (T := TX8) (N := 16) hx hb hts (fun _ h => List.mem_cons_of_mem _ (List.mem_append_right _ h)) hown hK hP 1 rfl rfl 0 (by decide) (hts (.fieldLink RX8 7 "WinterWalkModel" "slot" "[I") (List.mem_of_getElem? (i := 1) rfl)) (fun _ h9 => h9) rfl dX8_isVillage_97 ?_
            refine lv_sipush (v := 1619) hx hb dX8_isVillage_100 (by decide) ?_
            refine lv_iload_n hx hb dX8_isVillage_103 rfl (lv_at hl 0 rfl) ?_
            refine lv_iadd hx hb dX8_isVillage_104 ?_
            refine lv_topi (fun x_24 ex_24 => ?_)
            have e_24 : x_24.toInt = 1619 + (ur sf).1 := by rw [ex_24]; exact zi_add (by decide) (u_1) (by omega) (by omega)
            refine lv_aload_n hx hb dX8_isVillage_105 rfl (lv_at hl 1 rfl) ?_
            refine va_get (D := D) (ci := 7) (v := .int v23_3) (C := RX8) (T := TX8) (N := 16) hx hb hts (fun _ h => List.mem_cons_of_mem _ (List.mem_append_right _ h)) hown hK hP 1 rfl rfl 15 (by decide) (hts (.fieldLink RX8 83 "WinterWalkModel" "number" "I") (List.mem_of_getElem? (i := 3) rfl)) (fun _ h9 => h9) rfl dX8_isVillage_106 ?_
            refine va_iast hx hb hK hP hD hS 0 0 rfl rfl (zi_in (by omega) (by omega)) dX8_isVillage_109 (fun H locs hP hD hS => ?_)
            have hP : va_P D kl [(sl, .inl (cI, 1653, .inl (upd (upd sf (x_5 : Int32).toNatClampNeg v4_3) (x_24 : Int32).toNatClampNeg v23_3))), (h, .inr (7, [.ref sl, .int na, .ref zs, .ref ln, .ref ir, .ref tk, .int su, .int le, .ref tb, .int v23_0, .int v23_1, .int v23_2, .ref tr, .int tc, .ref fz, .int v23_3])), (tb, .inl (cB, 120, .inl tbf))] H := hP
            have hD : va_D A [(sl, .inl (cI, 1653, .inl (upd (upd sf (x_5 : Int32).toNatClampNeg v4_3) (x_24 : Int32).toNatClampNeg v23_3))), (h, .inr (7, [.ref sl, .int na, .ref zs, .ref ln, .ref ir, .ref tk, .int su, .int le, .ref tb, .int v23_0, .int v23_1, .int v23_2, .ref tr, .int tc, .ref fz, .int v23_3])), (tb, .inl (cB, 120, .inl tbf))] := hD
            have ha_25 : SI (upd (upd sf (x_5 : Int32).toNatClampNeg v4_3) (x_24 : Int32).toNatClampNeg v23_3) v0 := si_up ha_20 (by omega) (fun s0 a0 b0 e0 => by omega) (fun s0 a0 b0 e0 => by omega) (fun s0 k0 a0 b0 c0 d0 e0 => by omega) (by omega)
            have hf_26 : FRM (1596) (1653) sf (upd (upd sf (x_5 : Int32).toNatClampNeg v4_3) (x_24 : Int32).toNatClampNeg v23_3) := FRM.up hf_21 (by omega)
            refine lv_aload_n hx hb dX8_isVillage_110 rfl (lv_at hl 1 rfl) ?_
            refine va_get (D := D) (ci := 7) (v := .ref sl) (C := RX8) (T := TX8) (N := 16) hx hb hts (fun _ h => List.mem_cons_of_mem _ (List.mem_append_right _ h)) hown hK hP 1 rfl rfl 0 (by decide) (hts (.fieldLink RX8 7 "WinterWalkModel" "slot" "[I") (List.mem_of_getElem? (i := 1) rfl)) (fun _ h9 => h9) rfl dX8_isVillage_111 ?_
            refine lv_sipush (v := 1597) hx hb dX8_isVillage_114 (by decide) ?_
            refine lv_dup2_11 hx hb dX8_isVillage_117 rfl rfl ?_
            refine va_iald hx hb hK hP 0 0 rfl rfl (zi_in (by decide) (by decide)) dX8_isVillage_118 ?_
            refine lv_topi (fun x_27 ex_27 => ?_)
            have f_27 : 0 ≤ x_27.toInt ∧ x_27.toInt ≤ 8 := by rw [ex_27]; exact si_v ha_25 (s := 28) (by decide) (by omega)
            have g_27 : x_27.toInt = x_1.toInt := by have hk0 : (1597 : Int32).toInt = 1597 := (by decide); rw [ex_27, zu_ne (by omega) (by omega) (by omega), zu_ne (by omega) (by omega) (by omega), ex_1]
            refine lv_iconst (v := 1) hx hb dX8_isVillage_119 (by decide) ?_
            refine lv_iadd hx hb dX8_isVillage_120 ?_
            refine lv_topi (fun x_28 ex_28 => ?_)
            have e_28 : x_28.toInt = x_27.toInt + 1 := by rw [ex_28]; exact zi_add (rfl) (by decide) (by omega) (by omega)
            refine va_iast hx hb hK hP hD hS 0 0 rfl rfl (zi_in (by decide) (by decide)) dX8_isVillage_121 (fun H locs hP hD hS => ?_)
            have hP : va_P D kl [(sl, .inl (cI, 1653, .inl (upd (upd (upd sf (x_5 : Int32).toNatClampNeg v4_3) (x_24 : Int32).toNatClampNeg v23_3) (1597 : Int32).toNatClampNeg x_28))), (h, .inr (7, [.ref sl, .int na, .ref zs, .ref ln, .ref ir, .ref tk, .int su, .int le, .ref tb, .int v23_0, .int v23_1, .int v23_2, .ref tr, .int tc, .ref fz, .int v23_3])), (tb, .inl (cB, 120, .inl tbf))] H := hP
            have hD : va_D A [(sl, .inl (cI, 1653, .inl (upd (upd (upd sf (x_5 : Int32).toNatClampNeg v4_3) (x_24 : Int32).toNatClampNeg v23_3) (1597 : Int32).toNatClampNeg x_28))), (h, .inr (7, [.ref sl, .int na, .ref zs, .ref ln, .ref ir, .ref tk, .int su, .int le, .ref tb, .int v23_0, .int v23_1, .int v23_2, .ref tr, .int tc, .ref fz, .int v23_3])), (tb, .inl (cB, 120, .inl tbf))] := hD
            have hq_29 : (1597 : Int32).toInt = 1597 := by decide
            have ha_29 : SI (upd (upd (upd sf (x_5 : Int32).toNatClampNeg v4_3) (x_24 : Int32).toNatClampNeg v23_3) (1597 : Int32).toNatClampNeg x_28) v0 := si_up ha_25 (by omega) (fun s0 a0 b0 e0 => by omega) (fun s0 a0 b0 e0 => by omega) (fun s0 k0 a0 b0 c0 d0 e0 => by omega) (by omega)
            have hi_30 : (1597 : Int32).toInt = 1597 := by decide
            have hf_30 : FRM (1596) (1653) sf (upd (upd (upd sf (x_5 : Int32).toNatClampNeg v4_3) (x_24 : Int32).toNatClampNeg v23_3) (1597 : Int32).toNatClampNeg x_28) := FRM.up hf_26 (by omega)
            refine lv_aload_n hx hb dX8_isVillage_122 rfl (lv_at hl 1 rfl) ?_
            refine lv_bipush (v := 59) hx hb dX8_isVillage_123 (by decide) ?_
            have k_31 := (p_X8_isSign l D cI cB cQ H.size h sl zs ln ir tk tb tr fz na su le v23_0 v23_1 v23_2 tc v23_3 59 tbf (by omega) (by omega) (by omega) (by omega) (by omega) ⟨by decide, by decide⟩)
            refine wc_i (WC := [(h, .inr (7, [.ref sl, .int na, .ref zs, .ref ln, .ref ir, .ref tk, .int su, .int le, .ref tb, .int v23_0, .int v23_1, .int v23_2, .ref tr, .int tc, .ref fz, .int v23_3])), (tb, .inl (cB, 120, .inl tbf))]) (WR := [(sl, .inl (cI, 1653, .inl (upd (upd (upd sf (x_5 : Int32).toNatClampNeg v4_3) (x_24 : Int32).toNatClampNeg v23_3) (1597 : Int32).toNatClampNeg x_28)))]) (va_runV (As := [.int 59]) (rest := []) ⟨hx, hb, hml, hown, hts⟩ k_31 (cwV 1 hts gX8_isVillage_X8_isSign rfl rfl rfl (by decide +kernel) ⟨Nat.le_of_ble_eq_true rfl, Nat.le_of_ble_eq_true rfl⟩) (wp_V hP hK hD hN [1, 2] (by decide) rfl (ci := 7) rfl rfl) rfl rfl hl.1 rfl (lv_room (Nat.le_of_ble_eq_true rfl)) dX8_isVillage_125 ⟨Nat.le_of_ble_eq_true rfl, Nat.le_of_ble_eq_true rfl⟩) hP hD hS hA [1, 2] [0] rfl rfl (by decide) (by decide) (fun r_31 => pe3 (fun v31_0 v31_1 v31_2 H locs hw_31 hP hD hS => ?_))
            clear k_31
            have hP : va_P D kl [(sl, .inl (cI, 1653, .inl (upd (upd (upd sf (x_5 : Int32).toNatClampNeg v4_3) (x_24 : Int32).toNatClampNeg v23_3) (1597 : Int32).toNatClampNeg x_28))), (h, .inr (7, [.ref sl, .int na, .ref zs, .ref ln, .ref ir, .ref tk, .int su, .int le, .ref tb, .int v31_0, .int v31_1, .int v31_2, .ref tr, .int tc, .ref fz, .int v23_3])), (tb, .inl (cB, 120, .inl tbf))] H := hP
            have hD : va_D A [(sl, .inl (cI, 1653, .inl (upd (upd (upd sf (x_5 : Int32).toNatClampNeg v4_3) (x_24 : Int32).toNatClampNeg v23_3) (1597 : Int32).toNatClampNeg x_28))), (h, .inr (7, [.ref sl, .int na, .ref zs, .ref ln, .ref ir, .ref tk, .int su, .int le, .ref tb, .int v31_0, .int v31_1, .int v31_2, .ref tr, .int tc, .ref fz, .int v23_3])), (tb, .inl (cB, 120, .inl tbf))] := hD
            obtain ⟨c31_0, c31_1, c31_2, c31_3⟩ := hw_31
            have c31_1 : v23_1.toInt ≤ v31_1.toInt := c31_1
            have c31_2 : 0 ≤ v31_1.toInt ∧ v31_1.toInt ≤ 120 := c31_2
            have c31_3 : 0 ≤ v31_2.toInt ∧ v31_2.toInt ≤ 120 := c31_3
            rcases c31_0 with ⟨e_31, f_31⟩ | ⟨e_31, f_31⟩
            · subst e_31
              have f_31 : ((0, v31_0.toInt, v31_2.toInt, v31_1.toInt) : TPS) = tS (tbr tbf le.toInt) (59 : Int) (0, v23_0.toInt, v23_2.toInt, v23_1.toInt) := f_31
              exact wr_z (v := 1) hx hb hr hlocks hS (v31_0, v31_1, v31_2, v23_3, (upd (upd (upd sf (x_5 : Int32).toNatClampNeg v4_3) (x_24 : Int32).toNatClampNeg v23_3) (1597 : Int32).toNatClampNeg x_28)) (by exact ⟨Or.inl ⟨rfl, show ((((0, v31_0.toInt, v31_2.toInt, v31_1.toInt) : TPS), ur (upd (upd (upd sf (x_5 : Int32).toNatClampNeg v4_3) (x_24 : Int32).toNatClampNeg v23_3) (1597 : Int32).toNatClampNeg x_28)) : TPT) = tpV (tbr tbf le.toInt) ((0, fu.toInt, pp.toInt, ap.toInt), ur sf) ∧ ap.toInt < v31_1.toInt ∧ (ur (upd (upd (upd sf (x_5 : Int32).toNatClampNeg v4_3) (x_24 : Int32).toNatClampNeg v23_3) (1597 : Int32).toNatClampNeg x_28)).1 = (ur sf).1 + 1 ∧ (ur (upd (upd (upd sf (x_5 : Int32).toNatClampNeg v4_3) (x_24 : Int32).toNatClampNeg v23_3) (1597 : Int32).toNatClampNeg x_28)).2.1 = (ur sf).2.1 from (by have hu : ur (upd (upd (upd sf (x_5 : Int32).toNatClampNeg v4_3) (x_24 : Int32).toNatClampNeg v23_3) (1597 : Int32).toNatClampNeg x_28) = _ := ur_V3 hsi (v := (ur sf).1) (by omega) (by omega) (by omega) (by omega); exact ⟨by have hL : ((0, fu.toInt, pp.toInt, x_3.toInt) : TPS) = tL 1 (0, fu.toInt, pp.toInt, ap.toInt) := tL_1 (by decide) (by omega); have hT : ((0, v31_0.toInt, v31_2.toInt, v31_1.toInt) : TPS) = tpVt (tbr tbf le.toInt) (0, fu.toInt, pp.toInt, ap.toInt) (ur sf).1 := (by rw [f_31, f_23.1, f_22, f_4.1, hL]; exact (tpVt_1 (by omega)).symm); exact tpV_okr hT rfl (ur_V3 hsi (v := (ur sf).1) (by omega) (by omega) (by omega) (by omega)), by omega, ((congrArg (fun u : TPU => u.1) hu).trans rfl), ((congrArg (fun u : TPU => u.2.1) hu).trans rfl)⟩)⟩, show (ap.toInt ≤ v31_1.toInt) from by omega, show FRM (1596) (1653) sf (upd (upd (upd sf (x_5 : Int32).toNatClampNeg v4_3) (x_24 : Int32).toNatClampNeg v23_3) (1597 : Int32).toNatClampNeg x_28) from hf_30, show 0 ≤ (v31_1 : Int32).toInt ∧ (v31_1 : Int32).toInt ≤ 120 from by omega, show 0 ≤ (v31_2 : Int32).toInt ∧ (v31_2 : Int32).toInt ≤ 120 from by omega, ha_29⟩) (hP.sub [1, 0, 2] rfl) (hD.sub [1, 0, 2] (by decide) rfl) dX8_isVillage_128 rfl
            · subst e_31
              have f_31 : tfa (tS (tbr tbf le.toInt) (59 : Int) (0, v23_0.toInt, v23_2.toInt, v23_1.toInt)) v31_0.toInt v31_2.toInt := f_31
              exact wr_z (v := 0) hx hb hr hlocks hS (v31_0, v31_1, v31_2, v23_3, (upd (upd (upd sf (x_5 : Int32).toNatClampNeg v4_3) (x_24 : Int32).toNatClampNeg v23_3) (1597 : Int32).toNatClampNeg x_28)) (by exact ⟨Or.inr (⟨rfl, show tfa (tpV (tbr tbf le.toInt) ((0, fu.toInt, pp.toInt, ap.toInt), ur sf)).1 v31_0.toInt v31_2.toInt from by have hL : ((0, fu.toInt, pp.toInt, x_3.toInt) : TPS) = tL 1 (0, fu.toInt, pp.toInt, ap.toInt) := tL_1 (by decide) (by omega); show tfa (tpVt (tbr tbf le.toInt) (0, fu.toInt, pp.toInt, ap.toInt) (ur sf).1) _ _; rw [tpVt_1 (by omega), ← hL, ← f_4.1, ← f_22, ← f_23.1]; exact f_31⟩), show (ap.toInt ≤ v31_1.toInt) from by omega, show FRM (1596) (1653) sf (upd (upd (upd sf (x_5 : Int32).toNatClampNeg v4_3) (x_24 : Int32).toNatClampNeg v23_3) (1597 : Int32).toNatClampNeg x_28) from hf_30, show 0 ≤ (v31_1 : Int32).toInt ∧ (v31_1 : Int32).toInt ≤ 120 from by omega, show 0 ≤ (v31_2 : Int32).toInt ∧ (v31_2 : Int32).toInt ≤ 120 from by omega, ha_29⟩) (hP.sub [1, 0, 2] rfl) (hD.sub [1, 0, 2] (by decide) rfl) dX8_isVillage_128 rfl
          · subst e_23
            have f_23 : tfa (tN (tbr tbf le.toInt) (0 : Int) (20 : Int) (0, v22_0.toInt, v22_2.toInt, v22_1.toInt)) v23_0.toInt v23_2.toInt := f_23
            refine lv_if_ne (tgt := 96) hx hb dX8_isVillage_91 (by decide) (fun c9 => absurd (by decide) c9) (fun _ => ?_)
            refine lv_iconst (v := 0) hx hb dX8_isVillage_94 (by decide) ?_
            exact wr_z (v := 0) hx hb hr hlocks hS (v23_0, v23_1, v23_2, v23_3, (upd sf (x_5 : Int32).toNatClampNeg v4_3)) (by exact ⟨Or.inr (⟨rfl, show tfa (tpV (tbr tbf le.toInt) ((0, fu.toInt, pp.toInt, ap.toInt), ur sf)).1 v23_0.toInt v23_2.toInt from by have hL : ((0, fu.toInt, pp.toInt, x_3.toInt) : TPS) = tL 1 (0, fu.toInt, pp.toInt, ap.toInt) := tL_1 (by decide) (by omega); show tfa (tpVt (tbr tbf le.toInt) (0, fu.toInt, pp.toInt, ap.toInt) (ur sf).1) _ _; rw [tpVt_1 (by omega), ← hL, ← f_4.1, ← f_22]; exact tfa_S (f_23)⟩), show (ap.toInt ≤ v23_1.toInt) from by omega, show FRM (1596) (1653) sf (upd sf (x_5 : Int32).toNatClampNeg v4_3) from hf_21, show 0 ≤ (v23_1 : Int32).toInt ∧ (v23_1 : Int32).toInt ≤ 120 from by omega, show 0 ≤ (v23_2 : Int32).toInt ∧ (v23_2 : Int32).toInt ≤ 120 from by omega, ha_20⟩) (hP.sub [1, 0, 2] rfl) (hD.sub [1, 0, 2] (by decide) rfl) dX8_isVillage_95 rfl
        · subst e_22
          have f_22 : tfa (tS (tbr tbf le.toInt) (44 : Int) (0, v4_0.toInt, v4_2.toInt, v4_1.toInt)) v22_0.toInt v22_2.toInt := f_22
          refine lv_if_eq (tgt := 94) hx hb dX8_isVillage_81 (by decide) (fun _ => ?_) (fun c9 => absurd (by decide) c9)
          refine lv_iconst (v := 0) hx hb dX8_isVillage_94 (by decide) ?_
          exact wr_z (v := 0) hx hb hr hlocks hS (v22_0, v22_1, v22_2, v4_3, (upd sf (x_5 : Int32).toNatClampNeg v4_3)) (by exact ⟨Or.inr (⟨rfl, show tfa (tpV (tbr tbf le.toInt) ((0, fu.toInt, pp.toInt, ap.toInt), ur sf)).1 v22_0.toInt v22_2.toInt from by have hL : ((0, fu.toInt, pp.toInt, x_3.toInt) : TPS) = tL 1 (0, fu.toInt, pp.toInt, ap.toInt) := tL_1 (by decide) (by omega); show tfa (tpVt (tbr tbf le.toInt) (0, fu.toInt, pp.toInt, ap.toInt) (ur sf).1) _ _; rw [tpVt_1 (by omega), ← hL, ← f_4.1]; exact tfa_S (tfa_N (f_22))⟩), show (ap.toInt ≤ v22_1.toInt) from by omega, show FRM (1596) (1653) sf (upd sf (x_5 : Int32).toNatClampNeg v4_3) from hf_21, show 0 ≤ (v22_1 : Int32).toInt ∧ (v22_1 : Int32).toInt ≤ 120 from by omega, show 0 ≤ (v22_2 : Int32).toInt ∧ (v22_2 : Int32).toInt ≤ 120 from by omega, ha_20⟩) (hP.sub [1, 0, 2] rfl) (hD.sub [1, 0, 2] (by decide) rfl) dX8_isVillage_95 rfl
    · subst e_4
      have f_4 : tfa (tN (tbr tbf le.toInt) (0 : Int) (9 : Int) (0, fu.toInt, pp.toInt, x_3.toInt)) v4_0.toInt v4_2.toInt := f_4
      refine lv_if_ne (tgt := 47) hx hb dX8_isVillage_42 (by decide) (fun c9 => absurd (by decide) c9) (fun _ => ?_)
      refine lv_iconst (v := 0) hx hb dX8_isVillage_45 (by decide) ?_
      exact wr_z (v := 0) hx hb hr hlocks hS (v4_0, v4_1, v4_2, v4_3, sf) (by exact ⟨Or.inr (⟨rfl, show tfa (tpV (tbr tbf le.toInt) ((0, fu.toInt, pp.toInt, ap.toInt), ur sf)).1 v4_0.toInt v4_2.toInt from by have hL : ((0, fu.toInt, pp.toInt, x_3.toInt) : TPS) = tL 1 (0, fu.toInt, pp.toInt, ap.toInt) := tL_1 (by decide) (by omega); show tfa (tpVt (tbr tbf le.toInt) (0, fu.toInt, pp.toInt, ap.toInt) (ur sf).1) _ _; rw [tpVt_1 (by omega), ← hL]; exact tfa_S (tfa_N (tfa_S (f_4)))⟩), show (ap.toInt ≤ v4_1.toInt) from by omega, show FRM (1596) (1653) sf sf from FRM.refl, show 0 ≤ (v4_1 : Int32).toInt ∧ (v4_1 : Int32).toInt ≤ 120 from by omega, show 0 ≤ (v4_2 : Int32).toInt ∧ (v4_2 : Int32).toInt ≤ 120 from by omega, hsi⟩) (hP.sub [1, 0, 2] rfl) (hD.sub [1, 0, 2] (by decide) rfl) dX8_isVillage_46 rfl
  · have f_2 : (ur sf).1 = 8 := by
      have h8 := zi_eq c_2
      try rw [u_1] at h8
      exact h8
    refine lv_aload_n hx hb dX8_isVillage_15 rfl (lv_at hl 1 rfl) ?_
    refine lv_iconst (v := 3) hx hb dX8_isVillage_16 (by decide) ?_
    refine lv_aload_n hx hb dX8_isVillage_17 rfl (lv_at hl 1 rfl) ?_
    refine va_get (D := D) (ci := 7) (v := .int ap) (C := RX8) (T := TX8) (N := 16) hx hb hts (fun _ h => List.mem_cons_of_mem _ (List.mem_append_right _ h)) hown hK hP 0 rfl rfl 10 (by decide) (hts (.fieldLink RX8 62 "WinterWalkModel" "at" "I") (List.mem_of_getElem? (i := 2) rfl)) (fun _ h9 => h9) rfl dX8_isVillage_18 ?_
    have k_32 := (p_X8_fails l D cI cB cQ s.heap.size h sl zs ln ir tk tb tr fz na su le fu ap pp tc nm 3 ap (by omega) (by omega))
    refine wc_i (WC := [(h, .inr (7, [.ref sl, .int na, .ref zs, .ref ln, .ref ir, .ref tk, .int su, .int le, .ref tb, .int fu, .int ap, .int pp, .ref tr, .int tc, .ref fz, .int nm]))]) (WR := [(sl, .inl (cI, 1653, .inl sf)), (tb, .inl (cB, 120, .inl tbf))]) (va_runV (As := [.int 3, .int ap]) (rest := []) ⟨hx, hb, hml, hown, hts⟩ k_32 (cwV 2 hts gX8_isVillage_X8_fails rfl rfl rfl (by decide +kernel) ⟨Nat.le_of_ble_eq_true rfl, Nat.le_of_ble_eq_true rfl⟩) (wp_V hP hK hD hN [0] (by decide) rfl (ci := 7) rfl rfl) rfl rfl hl.1 rfl (lv_room (Nat.le_of_ble_eq_true rfl)) dX8_isVillage_21 ⟨Nat.le_of_ble_eq_true rfl, Nat.le_of_ble_eq_true rfl⟩) hP hD hS hA [0] [1, 2] rfl rfl (by decide) (by decide) (fun r_32 => pe2 (fun v32_0 v32_1 H locs hw_32 hP hD hS => ?_))
    clear k_32
    have hP : va_P D kl [(sl, .inl (cI, 1653, .inl sf)), (tb, .inl (cB, 120, .inl tbf)), (h, .inr (7, [.ref sl, .int na, .ref zs, .ref ln, .ref ir, .ref tk, .int su, .int le, .ref tb, .int v32_0, .int ap, .int v32_1, .ref tr, .int tc, .ref fz, .int nm]))] H := hP
    have hD : va_D A [(sl, .inl (cI, 1653, .inl sf)), (tb, .inl (cB, 120, .inl tbf)), (h, .inr (7, [.ref sl, .int na, .ref zs, .ref ln, .ref ir, .ref tk, .int su, .int le, .ref tb, .int v32_0, .int ap, .int v32_1, .ref tr, .int tc, .ref fz, .int nm]))] := hD
    obtain ⟨c32_0, c32_1, c32_2⟩ := hw_32
    have c32_1 : v32_0.toInt = (3 : Int) ∧ v32_1.toInt = ap.toInt := c32_1
    have c32_2 : 0 ≤ v32_1.toInt ∧ v32_1.toInt ≤ 120 := c32_2
    have e_32 := c32_0
    · subst e_32
      exact wr_z (v := 0) hx hb hr hlocks hS (v32_0, ap, v32_1, nm, sf) (by exact ⟨Or.inr (⟨rfl, show tfa (tpV (tbr tbf le.toInt) ((0, fu.toInt, pp.toInt, ap.toInt), ur sf)).1 v32_0.toInt v32_1.toInt from by show tfa (tpVt (tbr tbf le.toInt) (0, fu.toInt, pp.toInt, ap.toInt) (ur sf).1) _ _; rw [tpVt_0 (by omega)]; exact tfa_S (tfa_N (tfa_S (tfa_N (tL_r (by omega) (by omega)))))⟩), show (ap.toInt ≤ ap.toInt) from by omega, show FRM (1596) (1653) sf sf from FRM.refl, show 0 ≤ (ap : Int32).toInt ∧ (ap : Int32).toInt ≤ 120 from by omega, show 0 ≤ (v32_1 : Int32).toInt ∧ (v32_1 : Int32).toInt ≤ 120 from by omega, hsi⟩) (hP.sub [2, 0, 1] rfl) (hD.sub [2, 0, 1] (by decide) rfl) dX8_isVillage_24 rfl
