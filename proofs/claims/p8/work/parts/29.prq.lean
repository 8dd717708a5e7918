set_option maxHeartbeats 4000000 in
set_option maxRecDepth 100000 in
theorem p_X8_isLand (l : Launch) (D : va_G) (cI cB cQ : ClassId) (sz : Nat) (h : Nat) (sl : Nat) (zs : Nat) (ln : Nat) (ir : Nat) (tk : Nat) (tb : Nat) (tr : Nat) (fz : Nat) (na : Int32) (su : Int32) (le : Int32) (fu : Int32) (ap : Int32) (pp : Int32) (tc : Int32) (nm : Int32) (sf : Nat → Int32) (tbf : Nat → Int32) (v0 : Int) (hsi : SI sf v0) (h_na : 0 ≤ na.toInt ∧ na.toInt ≤ 24) (h_le : 0 ≤ le.toInt ∧ le.toInt ≤ 120) (h_ap : 0 ≤ ap.toInt ∧ ap.toInt ≤ 120) (h_tc : 0 ≤ tc.toInt ∧ tc.toInt ≤ 16) (h_pp : 0 ≤ pp.toInt ∧ pp.toInt ≤ 120) : mi l yX8_isLand wsX8_isLand ({ frames := 3, cells := 0, slots := 0, locals := 73 }) D cI cB cQ [.ref h] sz [(h, .inr (7, [.ref sl, .int na, .ref zs, .ref ln, .ref ir, .ref tk, .int su, .int le, .ref tb, .int fu, .int ap, .int pp, .ref tr, .int tc, .ref fz, .int nm])), (sl, .inl (cI, 1653, .inl sf)), (tb, .inl (cB, 120, .inl tbf))] (fun (r : Int32) (u : Int32 × Int32 × Int32 × Int32 × (Nat → Int32)) => ((r = 1 ∧ ((tpA (tbr tbf le.toInt) le.toInt fu.toInt pp.toInt).1.1 = 0 ∧ (tpA (tbr tbf le.toInt) le.toInt fu.toInt pp.toInt).1.2.1 = u.1.toInt ∧ (tpA (tbr tbf le.toInt) le.toInt fu.toInt pp.toInt).1.2.2.1 = u.2.2.1.toInt ∧ (tpA (tbr tbf le.toInt) le.toInt fu.toInt pp.toInt).2.1 = (ur u.2.2.2.2).1) ∧ ((((0, u.1.toInt, u.2.2.1.toInt, u.2.1.toInt) : TPS), ur u.2.2.2.2) : TPT) = (tpA (tbr tbf le.toInt) le.toInt fu.toInt pp.toInt)) ∨ (r = 0 ∧ (tpA (tbr tbf le.toInt) le.toInt fu.toInt pp.toInt).1.1 = 1 ∧ (tpA (tbr tbf le.toInt) le.toInt fu.toInt pp.toInt).1.2.1 = u.1.toInt ∧ (tpA (tbr tbf le.toInt) le.toInt fu.toInt pp.toInt).1.2.2.1 = u.2.2.1.toInt)) ∧ (0 ≤ u.2.1.toInt ∧ u.2.1.toInt ≤ 120) ∧ (0 ≤ u.2.2.1.toInt ∧ u.2.2.1.toInt ≤ 120) ∧ (SI u.2.2.2.2 v0)) (fun u => [(h, .inr (7, [.ref sl, .int na, .ref zs, .ref ln, .ref ir, .ref tk, .int su, .int le, .ref tb, .int u.1, .int u.2.1, .int u.2.2.1, .ref tr, .int tc, .ref fz, .int u.2.2.2.1])), (sl, .inl (cI, 1653, .inl u.2.2.2.2)), (tb, .inl (cB, 120, .inl tbf))]) 0 0 := by
  refine wm_i (cc := cX8_isLand) (maxL := 5) (ret := (some .boolean)) (by decide) rfl (Nat.le_of_ble_eq_true rfl) ?_
  intro p e s m below meth c A ls hx hb hr hml hown hts hlocks hin hP hK hD hN hA hl hS
  have hown : s.vm.findClass RX8 = some m.cls := hown
  have hl : lv_has ls 5 [(0, .ref h)] := hl
  change W p l e ({ frames := 3, cells := 0, slots := 0, locals := 73 }) s m ([.ref h] : List Value).toArray below meth c s.heap [] 0 0 (MQ below (va_Qi (fun (r : Int32) (u : Int32 × Int32 × Int32 × Int32 × (Nat → Int32)) => ((r = 1 ∧ ((tpA (tbr tbf le.toInt) le.toInt fu.toInt pp.toInt).1.1 = 0 ∧ (tpA (tbr tbf le.toInt) le.toInt fu.toInt pp.toInt).1.2.1 = u.1.toInt ∧ (tpA (tbr tbf le.toInt) le.toInt fu.toInt pp.toInt).1.2.2.1 = u.2.2.1.toInt ∧ (tpA (tbr tbf le.toInt) le.toInt fu.toInt pp.toInt).2.1 = (ur u.2.2.2.2).1) ∧ ((((0, u.1.toInt, u.2.2.1.toInt, u.2.1.toInt) : TPS), ur u.2.2.2.2) : TPT) = (tpA (tbr tbf le.toInt) le.toInt fu.toInt pp.toInt)) ∨ (r = 0 ∧ (tpA (tbr tbf le.toInt) le.toInt fu.toInt pp.toInt).1.1 = 1 ∧ (tpA (tbr tbf le.toInt) le.toInt fu.toInt pp.toInt).1.2.1 = u.1.toInt ∧ (tpA (tbr tbf le.toInt) le.toInt fu.toInt pp.toInt).1.2.2.1 = u.2.2.1.toInt)) ∧ (0 ≤ u.2.1.toInt ∧ u.2.1.toInt ≤ 120) ∧ (0 ≤ u.2.2.1.toInt ∧ u.2.2.1.toInt ≤ 120) ∧ (SI u.2.2.2.2 v0)) (fun u t => wb D A ((fun u => [(h, .inr (7, [.ref sl, .int na, .ref zs, .ref ln, .ref ir, .ref tk, .int su, .int le, .ref tb, .int u.1, .int u.2.1, .int u.2.2.1, .ref tr, .int tc, .ref fz, .int u.2.2.2.1])), (sl, .inl (cI, 1653, .inl u.2.2.2.2)), (tb, .inl (cB, 120, .inl tbf))]) u) t) A) ([.ref h] : List Value).toArray s 0 0 A) (F0 m 0 ls [])
  refine lv_aload_n hx hb dX8_isLand_0 rfl (lv_at hl 0 rfl) ?_
  refine lv_iconst (v := 0) hx hb dX8_isLand_1 (by decide) ?_
  refine va_put (D := D) (ci := 7) (v := .int 0) (ty := .int) (C := RX8) (T := TX8) (N := 16) hx hb hts (fun _ h => List.mem_cons_of_mem _ (List.mem_append_right _ h)) tyX8 tyX8_ok nmX8 hown hK hP hD hS 0 rfl rfl 10 (by decide) (hts (.fieldLink RX8 62 "WinterWalkModel" "at" "I") (List.mem_of_getElem? (i := 1) rfl)) (fun _ h9 => h9) rfl (by decide +kernel) rfl rfl (Nat.le_of_ble_eq_true rfl) dX8_isLand_2 (fun H locs hP hD hS => ?_)
  have hP : va_P D kl [(h, .inr (7, [.ref sl, .int na, .ref zs, .ref ln, .ref ir, .ref tk, .int su, .int le, .ref tb, .int fu, .int 0, .int pp, .ref tr, .int tc, .ref fz, .int nm])), (sl, .inl (cI, 1653, .inl sf)), (tb, .inl (cB, 120, .inl tbf))] H := hP
  have hD : va_D A [(h, .inr (7, [.ref sl, .int na, .ref zs, .ref ln, .ref ir, .ref tk, .int su, .int le, .ref tb, .int fu, .int 0, .int pp, .ref tr, .int tc, .ref fz, .int nm])), (sl, .inl (cI, 1653, .inl sf)), (tb, .inl (cB, 120, .inl tbf))] := hD
  refine lv_iconst (v := 0) hx hb dX8_isLand_5 (by decide) ?_
  refine lv_istore_n (lv' := [(1, .int 0), (0, .ref h)]) hx hb dX8_isLand_6 rfl hl (by decide) rfl (fun ls hl => ?_)
  have hL7 : ∀ (nf : Nat) (t1_c7 : Int32) (g0_c7 : Nat → Int32) (H : Heap) (locs : List Loc) (ls : Array Slot), (0 ≤ t1_c7.toInt ∧ t1_c7.toInt ≤ 57) → (SI g0_c7 v0) → (∀ q : Nat, (q : Int) < t1_c7.toInt → g0_c7 (1596 + q) = 0) → (57 - t1_c7.toInt).toNat < nf → va_P D kl [(h, .inr (7, [.ref sl, .int na, .ref zs, .ref ln, .ref ir, .ref tk, .int su, .int le, .ref tb, .int fu, .int 0, .int pp, .ref tr, .int tc, .ref fz, .int nm])), (sl, .inl (cI, 1653, .inl g0_c7)), (tb, .inl (cB, 120, .inl tbf))] H → va_D A [(h, .inr (7, [.ref sl, .int na, .ref zs, .ref ln, .ref ir, .ref tk, .int su, .int le, .ref tb, .int fu, .int 0, .int pp, .ref tr, .int tc, .ref fz, .int nm])), (sl, .inl (cI, 1653, .inl g0_c7)), (tb, .inl (cB, 120, .inl tbf))] → va_S A s.heap H locs → lv_has ls 5 [(1, .int t1_c7), (0, .ref h)] → W p l e ({ frames := 3, cells := 0, slots := 0, locals := 73 }) s m ([.ref h] : List Value).toArray below meth c H locs 0 0 (MQ below (va_Qi (fun (r : Int32) (u : Int32 × Int32 × Int32 × Int32 × (Nat → Int32)) => ((r = 1 ∧ ((tpA (tbr tbf le.toInt) le.toInt fu.toInt pp.toInt).1.1 = 0 ∧ (tpA (tbr tbf le.toInt) le.toInt fu.toInt pp.toInt).1.2.1 = u.1.toInt ∧ (tpA (tbr tbf le.toInt) le.toInt fu.toInt pp.toInt).1.2.2.1 = u.2.2.1.toInt ∧ (tpA (tbr tbf le.toInt) le.toInt fu.toInt pp.toInt).2.1 = (ur u.2.2.2.2).1) ∧ ((((0, u.1.toInt, u.2.2.1.toInt, u.2.1.toInt) : TPS), ur u.2.2.2.2) : TPT) = (tpA (tbr tbf le.toInt) le.toInt fu.toInt pp.toInt)) ∨ (r = 0 ∧ (tpA (tbr tbf le.toInt) le.toInt fu.toInt pp.toInt).1.1 = 1 ∧ (tpA (tbr tbf le.toInt) le.toInt fu.toInt pp.toInt).1.2.1 = u.1.toInt ∧ (tpA (tbr tbf le.toInt) le.toInt fu.toInt pp.toInt).1.2.2.1 = u.2.2.1.toInt)) ∧ (0 ≤ u.2.1.toInt ∧ u.2.1.toInt ≤ 120) ∧ (0 ≤ u.2.2.1.toInt ∧ u.2.2.1.toInt ≤ 120) ∧ (SI u.2.2.2.2 v0)) (fun u t => wb D A ((fun u => [(h, .inr (7, [.ref sl, .int na, .ref zs, .ref ln, .ref ir, .ref tk, .int su, .int le, .ref tb, .int u.1, .int u.2.1, .int u.2.2.1, .ref tr, .int tc, .ref fz, .int u.2.2.2.1])), (sl, .inl (cI, 1653, .inl u.2.2.2.2)), (tb, .inl (cB, 120, .inl tbf))]) u) t) A) ([.ref h] : List Value).toArray s 0 0 A) (F0 m 7 ls []) := by
    intro nf
    induction nf with
    | zero =>
      intro t1_c7 g0_c7 H locs ls i_t1_c7 ha_g0_c7 q0_c7 hm
      exact absurd hm (Nat.not_lt_zero _)
    | succ nf ih7 =>
      intro t1_c7 g0_c7 H locs ls i_t1_c7 ha_g0_c7 q0_c7 hm7 hP hD hS hl
      refine lv_iload_n hx hb dX8_isLand_7 rfl (lv_at hl 0 rfl) ?_
      refine lv_bipush (v := 57) hx hb dX8_isLand_8 (by decide) ?_
      refine lv_icmp_ge (tgt := 30) hx hb dX8_isLand_10 (by decide) (fun c_1 => ?_) (fun c_1 => ?_)
      · have f_1 : 57 ≤ t1_c7.toInt := zi_le c_1
        refine lv_aload_n hx hb dX8_isLand_30 rfl (lv_at hl 1 rfl) ?_
        refine lv_bipush (v := 102) hx hb dX8_isLand_31 (by decide) ?_
        have k_2 := (p_X8_isSign l D cI cB cQ H.size h sl zs ln ir tk tb tr fz na su le fu 0 pp tc nm 102 tbf (by omega) (by omega) ⟨by decide, by decide⟩ (by omega) (by omega) ⟨by decide, by decide⟩)
        refine wc_i (WC := [(h, .inr (7, [.ref sl, .int na, .ref zs, .ref ln, .ref ir, .ref tk, .int su, .int le, .ref tb, .int fu, .int 0, .int pp, .ref tr, .int tc, .ref fz, .int nm])), (tb, .inl (cB, 120, .inl tbf))]) (WR := [(sl, .inl (cI, 1653, .inl g0_c7))]) (va_runV (As := [.int 102]) (rest := []) ⟨hx, hb, hml, hown, hts⟩ k_2 (cwV 1 hts gX8_isLand_X8_isSign rfl rfl rfl (by decide +kernel) ⟨Nat.le_of_ble_eq_true rfl, Nat.le_of_ble_eq_true rfl⟩) (wp_V hP hK hD hN [0, 2] (by decide) rfl (ci := 7) rfl rfl) rfl rfl hl.1 rfl (lv_room (Nat.le_of_ble_eq_true rfl)) dX8_isLand_33 ⟨Nat.le_of_ble_eq_true rfl, Nat.le_of_ble_eq_true rfl⟩) hP hD hS hA [0, 2] [1] rfl rfl (by decide) (by decide) (fun r_2 => pe3 (fun v2_0 v2_1 v2_2 H locs hw_2 hP hD hS => ?_))
        clear k_2
        have hP : va_P D kl [(sl, .inl (cI, 1653, .inl g0_c7)), (h, .inr (7, [.ref sl, .int na, .ref zs, .ref ln, .ref ir, .ref tk, .int su, .int le, .ref tb, .int v2_0, .int v2_1, .int v2_2, .ref tr, .int tc, .ref fz, .int nm])), (tb, .inl (cB, 120, .inl tbf))] H := hP
        have hD : va_D A [(sl, .inl (cI, 1653, .inl g0_c7)), (h, .inr (7, [.ref sl, .int na, .ref zs, .ref ln, .ref ir, .ref tk, .int su, .int le, .ref tb, .int v2_0, .int v2_1, .int v2_2, .ref tr, .int tc, .ref fz, .int nm])), (tb, .inl (cB, 120, .inl tbf))] := hD
        obtain ⟨c2_0, c2_1, c2_2, c2_3⟩ := hw_2
        have c2_1 : (0 : Int) ≤ v2_1.toInt := c2_1
        have c2_2 : 0 ≤ v2_1.toInt ∧ v2_1.toInt ≤ 120 := c2_2
        have c2_3 : 0 ≤ v2_2.toInt ∧ v2_2.toInt ≤ 120 := c2_3
        rcases c2_0 with ⟨e_2, f_2⟩ | ⟨e_2, f_2⟩
        · subst e_2
          have f_2 : ((0, v2_0.toInt, v2_2.toInt, v2_1.toInt) : TPS) = tS (tbr tbf le.toInt) (102 : Int) (0, fu.toInt, pp.toInt, (0 : Int)) := f_2
          refine lv_if_eq (tgt := 49) hx hb dX8_isLand_36 (by decide) (fun c9 => absurd c9 (by decide)) (fun _ => ?_)
          refine lv_aload_n hx hb dX8_isLand_39 rfl (lv_at hl 1 rfl) ?_
          refine lv_iconst (v := 1) hx hb dX8_isLand_40 (by decide) ?_
          refine lv_bipush (v := 9) hx hb dX8_isLand_41 (by decide) ?_
          have k_3 := (p_X8_isNumber l D cI cB cQ H.size h sl zs ln ir tk tb tr fz na su le v2_0 v2_1 v2_2 tc nm 1 9 tbf (by omega) (by omega) (by omega) (by omega) (by omega))
          refine wc_i (WC := [(h, .inr (7, [.ref sl, .int na, .ref zs, .ref ln, .ref ir, .ref tk, .int su, .int le, .ref tb, .int v2_0, .int v2_1, .int v2_2, .ref tr, .int tc, .ref fz, .int nm])), (tb, .inl (cB, 120, .inl tbf))]) (WR := [(sl, .inl (cI, 1653, .inl g0_c7))]) (va_runV (As := [.int 1, .int 9]) (rest := []) ⟨hx, hb, hml, hown, hts⟩ k_3 (cwV 2 hts gX8_isLand_X8_isNumber rfl rfl rfl (by decide +kernel) ⟨Nat.le_of_ble_eq_true rfl, Nat.le_of_ble_eq_true rfl⟩) (wp_V hP hK hD hN [1, 2] (by decide) rfl (ci := 7) rfl rfl) rfl rfl hl.1 rfl (lv_room (Nat.le_of_ble_eq_true rfl)) dX8_isLand_43 ⟨Nat.le_of_ble_eq_true rfl, Nat.le_of_ble_eq_true rfl⟩) hP hD hS hA [1, 2] [0] rfl rfl (by decide) (by decide) (fun r_3 => pe4 (fun v3_0 v3_1 v3_2 v3_3 H locs hw_3 hP hD hS => ?_))
          clear k_3
          have hP : va_P D kl [(sl, .inl (cI, 1653, .inl g0_c7)), (h, .inr (7, [.ref sl, .int na, .ref zs, .ref ln, .ref ir, .ref tk, .int su, .int le, .ref tb, .int v3_0, .int v3_1, .int v3_2, .ref tr, .int tc, .ref fz, .int v3_3])), (tb, .inl (cB, 120, .inl tbf))] H := hP
          have hD : va_D A [(sl, .inl (cI, 1653, .inl g0_c7)), (h, .inr (7, [.ref sl, .int na, .ref zs, .ref ln, .ref ir, .ref tk, .int su, .int le, .ref tb, .int v3_0, .int v3_1, .int v3_2, .ref tr, .int tc, .ref fz, .int v3_3])), (tb, .inl (cB, 120, .inl tbf))] := hD
          obtain ⟨c3_0, c3_1, c3_2, c3_3⟩ := hw_3
          have c3_1 : v2_1.toInt ≤ v3_1.toInt := c3_1
          have c3_2 : 0 ≤ v3_1.toInt ∧ v3_1.toInt ≤ 120 := c3_2
          have c3_3 : 0 ≤ v3_2.toInt ∧ v3_2.toInt ≤ 120 := c3_3
          rcases c3_0 with ⟨e_3, f_3⟩ | ⟨e_3, f_3⟩
          · subst e_3
            have f_3 : ((0, v3_0.toInt, v3_2.toInt, v3_1.toInt) : TPS) = tN (tbr tbf le.toInt) (1 : Int) (9 : Int) (0, v2_0.toInt, v2_2.toInt, v2_1.toInt) ∧ v3_3.toInt = tV (tbr tbf le.toInt) (1 : Int) (9 : Int) (0, v2_0.toInt, v2_2.toInt, v2_1.toInt) ∧ ((1 : Int) ≤ v3_3.toInt ∧ v3_3.toInt ≤ (9 : Int)) := f_3
            refine lv_if_ne (tgt := 51) hx hb dX8_isLand_46 (by decide) (fun _ => ?_) (fun c9 => absurd c9 (by decide))
            refine lv_aload_n hx hb dX8_isLand_51 rfl (lv_at hl 1 rfl) ?_
            refine va_get (D := D) (ci := 7) (v := .ref sl) (C := RX8) (T := TX8) (N := 16) hx hb hts (fun _ h => List.mem_cons_of_mem _ (List.mem_append_right _ h)) hown hK hP 1 rfl rfl 0 (by decide) (hts (.fieldLink RX8 7 "WinterWalkModel" "slot" "[I") (List.mem_of_getElem? (i := 2) rfl)) (fun _ h9 => h9) rfl dX8_isLand_52 ?_
            refine lv_sipush (v := 1596) hx hb dX8_isLand_55 (by decide) ?_
            refine lv_aload_n hx hb dX8_isLand_58 rfl (lv_at hl 1 rfl) ?_
            refine va_get (D := D) (ci := 7) (v := .int v3_3) (C := RX8) (T := TX8) (N := 16) hx hb hts (fun _ h => List.mem_cons_of_mem _ (List.mem_append_right _ h)) hown hK hP 1 rfl rfl 15 (by decide) (hts (.fieldLink RX8 83 "WinterWalkModel" "number" "I") (List.mem_of_getElem? (i := 3) rfl)) (fun _ h9 => h9) rfl dX8_isLand_59 ?_
            refine va_iast hx hb hK hP hD hS 0 0 rfl rfl (zi_in (by decide) (by decide)) dX8_isLand_62 (fun H locs hP hD hS => ?_)
            have hP : va_P D kl [(sl, .inl (cI, 1653, .inl (upd g0_c7 (1596 : Int32).toNatClampNeg v3_3))), (h, .inr (7, [.ref sl, .int na, .ref zs, .ref ln, .ref ir, .ref tk, .int su, .int le, .ref tb, .int v3_0, .int v3_1, .int v3_2, .ref tr, .int tc, .ref fz, .int v3_3])), (tb, .inl (cB, 120, .inl tbf))] H := hP
            have hD : va_D A [(sl, .inl (cI, 1653, .inl (upd g0_c7 (1596 : Int32).toNatClampNeg v3_3))), (h, .inr (7, [.ref sl, .int na, .ref zs, .ref ln, .ref ir, .ref tk, .int su, .int le, .ref tb, .int v3_0, .int v3_1, .int v3_2, .ref tr, .int tc, .ref fz, .int v3_3])), (tb, .inl (cB, 120, .inl tbf))] := hD
            have hq_4 : (1596 : Int32).toInt = 1596 := by decide
            have ha_4 : SI (upd g0_c7 (1596 : Int32).toNatClampNeg v3_3) v0 := si_up ha_g0_c7 (by omega) (fun s0 a0 b0 e0 => by omega) (fun s0 a0 b0 e0 => by omega) (fun s0 k0 a0 b0 c0 d0 e0 => by omega) (by omega)
            refine lv_aload_n hx hb dX8_isLand_63 rfl (lv_at hl 1 rfl) ?_
            refine lv_bipush (v := 59) hx hb dX8_isLand_64 (by decide) ?_
            have k_5 := (p_X8_isSign l D cI cB cQ H.size h sl zs ln ir tk tb tr fz na su le v3_0 v3_1 v3_2 tc v3_3 59 tbf (by omega) (by omega) (by omega) (by omega) (by omega) ⟨by decide, by decide⟩)
            refine wc_i (WC := [(h, .inr (7, [.ref sl, .int na, .ref zs, .ref ln, .ref ir, .ref tk, .int su, .int le, .ref tb, .int v3_0, .int v3_1, .int v3_2, .ref tr, .int tc, .ref fz, .int v3_3])), (tb, .inl (cB, 120, .inl tbf))]) (WR := [(sl, .inl (cI, 1653, .inl (upd g0_c7 (1596 : Int32).toNatClampNeg v3_3)))]) (va_runV (As := [.int 59]) (rest := []) ⟨hx, hb, hml, hown, hts⟩ k_5 (cwV 1 hts gX8_isLand_X8_isSign rfl rfl rfl (by decide +kernel) ⟨Nat.le_of_ble_eq_true rfl, Nat.le_of_ble_eq_true rfl⟩) (wp_V hP hK hD hN [1, 2] (by decide) rfl (ci := 7) rfl rfl) rfl rfl hl.1 rfl (lv_room (Nat.le_of_ble_eq_true rfl)) dX8_isLand_66 ⟨Nat.le_of_ble_eq_true rfl, Nat.le_of_ble_eq_true rfl⟩) hP hD hS hA [1, 2] [0] rfl rfl (by decide) (by decide) (fun r_5 => pe3 (fun v5_0 v5_1 v5_2 H locs hw_5 hP hD hS => ?_))
            clear k_5
            have hP : va_P D kl [(sl, .inl (cI, 1653, .inl (upd g0_c7 (1596 : Int32).toNatClampNeg v3_3))), (h, .inr (7, [.ref sl, .int na, .ref zs, .ref ln, .ref ir, .ref tk, .int su, .int le, .ref tb, .int v5_0, .int v5_1, .int v5_2, .ref tr, .int tc, .ref fz, .int v3_3])), (tb, .inl (cB, 120, .inl tbf))] H := hP
            have hD : va_D A [(sl, .inl (cI, 1653, .inl (upd g0_c7 (1596 : Int32).toNatClampNeg v3_3))), (h, .inr (7, [.ref sl, .int na, .ref zs, .ref ln, .ref ir, .ref tk, .int su, .int le, .ref tb, .int v5_0, .int v5_1, .int v5_2, .ref tr, .int tc, .ref fz, .int v3_3])), (tb, .inl (cB, 120, .inl tbf))] := hD
            obtain ⟨c5_0, c5_1, c5_2, c5_3⟩ := hw_5
            have c5_1 : v3_1.toInt ≤ v5_1.toInt := c5_1
            have c5_2 : 0 ≤ v5_1.toInt ∧ v5_1.toInt ≤ 120 := c5_2
            have c5_3 : 0 ≤ v5_2.toInt ∧ v5_2.toInt ≤ 120 := c5_3
            rcases c5_0 with ⟨e_5, f_5⟩ | ⟨e_5, f_5⟩
            · subst e_5
              have f_5 : ((0, v5_0.toInt, v5_2.toInt, v5_1.toInt) : TPS) = tS (tbr tbf le.toInt) (59 : Int) (0, v3_0.toInt, v3_2.toInt, v3_1.toInt) := f_5
              refine lv_if_ne (tgt := 74) hx hb dX8_isLand_69 (by decide) (fun _ => ?_) (fun c9 => absurd c9 (by decide))
              refine lv_iconst (v := 0) hx hb dX8_isLand_74 (by decide) ?_
              refine lv_istore_n (lv' := [(1, .int 0), (0, .ref h)]) hx hb dX8_isLand_75 rfl hl (by decide) rfl (fun ls hl => ?_)
              have hL76 : ∀ (nf : Nat) (t1_c76 : Int32) (g0_c76 : Int32) (g1_c76 : Int32) (g2_c76 : Int32) (g3_c76 : Int32) (g4_c76 : Nat → Int32) (H : Heap) (locs : List Loc) (ls : Array Slot), (0 ≤ t1_c76.toInt ∧ t1_c76.toInt ≤ 2) → (0 ≤ g1_c76.toInt ∧ g1_c76.toInt ≤ 120) → (0 ≤ g2_c76.toInt ∧ g2_c76.toInt ≤ 120) → (SI g4_c76 v0) → (t1_c76.toInt = 0 ∨ 1 ≤ (ur g4_c76).1) → (0 ≤ (ur g4_c76).1) → (0 ≤ (ur g4_c76).2.1 ∧ (ur g4_c76).2.1 ≤ 12) → (tpq (tbr tbf le.toInt) le.toInt t1_c76.toInt ((0, g0_c76.toInt, g2_c76.toInt, g1_c76.toInt), ur g4_c76) = (tpA (tbr tbf le.toInt) le.toInt fu.toInt pp.toInt)) → (120 - g1_c76.toInt).toNat < nf → va_P D kl [(sl, .inl (cI, 1653, .inl g4_c76)), (h, .inr (7, [.ref sl, .int na, .ref zs, .ref ln, .ref ir, .ref tk, .int su, .int le, .ref tb, .int g0_c76, .int g1_c76, .int g2_c76, .ref tr, .int tc, .ref fz, .int g3_c76])), (tb, .inl (cB, 120, .inl tbf))] H → va_D A [(sl, .inl (cI, 1653, .inl g4_c76)), (h, .inr (7, [.ref sl, .int na, .ref zs, .ref ln, .ref ir, .ref tk, .int su, .int le, .ref tb, .int g0_c76, .int g1_c76, .int g2_c76, .ref tr, .int tc, .ref fz, .int g3_c76])), (tb, .inl (cB, 120, .inl tbf))] → va_S A s.heap H locs → lv_has ls 5 [(1, .int t1_c76), (0, .ref h)] → W p l e ({ frames := 3, cells := 0, slots := 0, locals := 73 }) s m ([.ref h] : List Value).toArray below meth c H locs 0 0 (MQ below (va_Qi (fun (r : Int32) (u : Int32 × Int32 × Int32 × Int32 × (Nat → Int32)) => ((r = 1 ∧ ((tpA (tbr tbf le.toInt) le.toInt fu.toInt pp.toInt).1.1 = 0 ∧ (tpA (tbr tbf le.toInt) le.toInt fu.toInt pp.toInt).1.2.1 = u.1.toInt ∧ (tpA (tbr tbf le.toInt) le.toInt fu.toInt pp.toInt).1.2.2.1 = u.2.2.1.toInt ∧ (tpA (tbr tbf le.toInt) le.toInt fu.toInt pp.toInt).2.1 = (ur u.2.2.2.2).1) ∧ ((((0, u.1.toInt, u.2.2.1.toInt, u.2.1.toInt) : TPS), ur u.2.2.2.2) : TPT) = (tpA (tbr tbf le.toInt) le.toInt fu.toInt pp.toInt)) ∨ (r = 0 ∧ (tpA (tbr tbf le.toInt) le.toInt fu.toInt pp.toInt).1.1 = 1 ∧ (tpA (tbr tbf le.toInt) le.toInt fu.toInt pp.toInt).1.2.1 = u.1.toInt ∧ (tpA (tbr tbf le.toInt) le.toInt fu.toInt pp.toInt).1.2.2.1 = u.2.2.1.toInt)) ∧ (0 ≤ u.2.1.toInt ∧ u.2.1.toInt ≤ 120) ∧ (0 ≤ u.2.2.1.toInt ∧ u.2.2.1.toInt ≤ 120) ∧ (SI u.2.2.2.2 v0)) (fun u t => wb D A ((fun u => [(h, .inr (7, [.ref sl, .int na, .ref zs, .ref ln, .ref ir, .ref tk, .int su, .int le, .ref tb, .int u.1, .int u.2.1, .int u.2.2.1, .ref tr, .int tc, .ref fz, .int u.2.2.2.1])), (sl, .inl (cI, 1653, .inl u.2.2.2.2)), (tb, .inl (cB, 120, .inl tbf))]) u) t) A) ([.ref h] : List Value).toArray s 0 0 A) (F0 m 76 ls []) := by
                intro nf
                induction nf with
                | zero =>
                  intro t1_c76 g0_c76 g1_c76 g2_c76 g3_c76 g4_c76 H locs ls i_t1_c76 i_g1_c76 i_g2_c76 ha_g4_c76 j0_c76 j1_c76 j2_c76 q0_c76 hm
                  exact absurd hm (Nat.not_lt_zero _)
                | succ nf ih76 =>
                  intro t1_c76 g0_c76 g1_c76 g2_c76 g3_c76 g4_c76 H locs ls i_t1_c76 i_g1_c76 i_g2_c76 ha_g4_c76 j0_c76 j1_c76 j2_c76 q0_c76 hm76 hP hD hS hl
                  refine lv_aload_n hx hb dX8_isLand_76 rfl (lv_at hl 1 rfl) ?_
                  refine va_get (D := D) (ci := 7) (v := .int g1_c76) (C := RX8) (T := TX8) (N := 16) hx hb hts (fun _ h => List.mem_cons_of_mem _ (List.mem_append_right _ h)) hown hK hP 1 rfl rfl 10 (by decide) (hts (.fieldLink RX8 62 "WinterWalkModel" "at" "I") (List.mem_of_getElem? (i := 1) rfl)) (fun _ h9 => h9) rfl dX8_isLand_77 ?_
                  refine lv_aload_n hx hb dX8_isLand_80 rfl (lv_at hl 1 rfl) ?_
                  refine va_get (D := D) (ci := 7) (v := .int le) (C := RX8) (T := TX8) (N := 16) hx hb hts (fun _ h => List.mem_cons_of_mem _ (List.mem_append_right _ h)) hown hK hP 1 rfl rfl 7 (by decide) (hts (.fieldLink RX8 58 "WinterWalkModel" "length" "I") (List.mem_of_getElem? (i := 4) rfl)) (fun _ h9 => h9) rfl dX8_isLand_81 ?_
                  refine lv_icmp_lt (tgt := 98) hx hb dX8_isLand_84 (by decide) (fun c_6 => ?_) (fun c_6 => ?_)
                  · have f_6 : g1_c76.toInt < le.toInt := zi_lt c_6
                    refine lv_aload_n hx hb dX8_isLand_98 rfl (lv_at hl 1 rfl) ?_
                    have k_7 := (p_X8_next l D cI cB cQ H.size h sl zs ln ir tk tb tr fz na su le g0_c76 g1_c76 g2_c76 tc g3_c76 tbf (by omega) (by omega) (by omega) (by omega) (by omega))
                    refine wc_i (WC := [(h, .inr (7, [.ref sl, .int na, .ref zs, .ref ln, .ref ir, .ref tk, .int su, .int le, .ref tb, .int g0_c76, .int g1_c76, .int g2_c76, .ref tr, .int tc, .ref fz, .int g3_c76])), (tb, .inl (cB, 120, .inl tbf))]) (WR := [(sl, .inl (cI, 1653, .inl g4_c76))]) (va_runV (As := []) (rest := []) ⟨hx, hb, hml, hown, hts⟩ k_7 (cwV 0 hts gX8_isLand_X8_next rfl rfl rfl (by decide +kernel) ⟨Nat.le_of_ble_eq_true rfl, Nat.le_of_ble_eq_true rfl⟩) (wp_V hP hK hD hN [1, 2] (by decide) rfl (ci := 7) rfl rfl) rfl rfl hl.1 rfl (lv_room (Nat.le_of_ble_eq_true rfl)) dX8_isLand_99 ⟨Nat.le_of_ble_eq_true rfl, Nat.le_of_ble_eq_true rfl⟩) hP hD hS hA [1, 2] [0] rfl rfl (by decide) (by decide) (fun r_7 u_7 H locs hw_7 hP hD hS => ?_)
                    clear k_7
                    have hP : va_P D kl [(sl, .inl (cI, 1653, .inl g4_c76)), (h, .inr (7, [.ref sl, .int na, .ref zs, .ref ln, .ref ir, .ref tk, .int su, .int le, .ref tb, .int g0_c76, .int g1_c76, .int g2_c76, .ref tr, .int tc, .ref fz, .int g3_c76])), (tb, .inl (cB, 120, .inl tbf))] H := hP
                    have hD : va_D A [(sl, .inl (cI, 1653, .inl g4_c76)), (h, .inr (7, [.ref sl, .int na, .ref zs, .ref ln, .ref ir, .ref tk, .int su, .int le, .ref tb, .int g0_c76, .int g1_c76, .int g2_c76, .ref tr, .int tc, .ref fz, .int g3_c76])), (tb, .inl (cB, 120, .inl tbf))] := hD
                    have c7_0 := hw_7
                    have c7_0 : (r_7.toInt = tbr tbf le.toInt g1_c76.toInt ∨ (r_7.toInt < 0 ∧ tbr tbf le.toInt g1_c76.toInt = (-1))) ∧ (r_7.toInt = (-1) ∨ g1_c76.toInt < le.toInt) := c7_0
                    refine lv_istore_n (lv' := [(2, .int r_7), (1, .int t1_c76), (0, .ref h)]) hx hb dX8_isLand_102 rfl hl (by decide) rfl (fun ls hl => ?_)
                    refine lv_iload_n hx hb dX8_isLand_103 rfl (lv_at hl 0 rfl) ?_
                    have k_8 := (p_X8_sortOf l D cI cB cQ H.size r_7)
                    refine wc_i (WC := []) (WR := [(sl, .inl (cI, 1653, .inl g4_c76)), (h, .inr (7, [.ref sl, .int na, .ref zs, .ref ln, .ref ir, .ref tk, .int su, .int le, .ref tb, .int g0_c76, .int g1_c76, .int g2_c76, .ref tr, .int tc, .ref fz, .int g3_c76])), (tb, .inl (cB, 120, .inl tbf))]) (va_runS (As := [.int r_7]) (rest := []) ⟨hx, hb, hml, hown, hts⟩ k_8 (va_cwS 1 hts gX8_isLand_X8_sortOf rfl rfl rfl (by decide +kernel) ⟨Nat.le_of_ble_eq_true rfl, Nat.le_of_ble_eq_true rfl⟩) (wp_S hP hK hD hN [] (by decide) rfl) rfl rfl hl.1 rfl (lv_room (Nat.le_of_ble_eq_true rfl)) dX8_isLand_104 ⟨Nat.le_of_ble_eq_true rfl, Nat.le_of_ble_eq_true rfl⟩) hP hD hS hA [] [0, 1, 2] rfl rfl (by decide) (by decide) (fun r_8 u_8 H locs hw_8 hP hD hS => ?_)
                    clear k_8
                    have hP : va_P D kl [(sl, .inl (cI, 1653, .inl g4_c76)), (h, .inr (7, [.ref sl, .int na, .ref zs, .ref ln, .ref ir, .ref tk, .int su, .int le, .ref tb, .int g0_c76, .int g1_c76, .int g2_c76, .ref tr, .int tc, .ref fz, .int g3_c76])), (tb, .inl (cB, 120, .inl tbf))] H := hP
                    have hD : va_D A [(sl, .inl (cI, 1653, .inl g4_c76)), (h, .inr (7, [.ref sl, .int na, .ref zs, .ref ln, .ref ir, .ref tk, .int su, .int le, .ref tb, .int g0_c76, .int g1_c76, .int g2_c76, .ref tr, .int tc, .ref fz, .int g3_c76])), (tb, .inl (cB, 120, .inl tbf))] := hD
                    have c8_0 := hw_8
                    have c8_0 : r_8.toInt = tpo r_7.toInt ∧ ((0 ≤ r_8.toInt ∧ r_8.toInt ≤ 5) ∧ (r_8.toInt = 0 ∨ 0 ≤ r_7.toInt)) := c8_0
                    have hs_8 := tpo_same c7_0.1
                    refine lv_istore_n (lv' := [(3, .int r_8), (2, .int r_7), (1, .int t1_c76), (0, .ref h)]) hx hb dX8_isLand_107 rfl hl (by decide) rfl (fun ls hl => ?_)
                    refine lv_iload_n hx hb dX8_isLand_108 rfl (lv_at hl 1 rfl) ?_
                    refine lv_bipush (v := 103) hx hb dX8_isLand_109 (by decide) ?_
                    refine lv_icmp_eq (tgt := 120) hx hb dX8_isLand_111 (by decide) (fun c_9 => ?_) (fun c_9 => ?_)
                    · have f_9 : r_7.toInt = 103 := zi_eq c_9
                      refine lv_iload_n hx hb dX8_isLand_120 rfl (lv_at hl 2 rfl) ?_
                      refine lv_if_ne (tgt := 134) hx hb dX8_isLand_121 (by decide) (fun c_10 => ?_) (fun c_10 => ?_)
                      · have f_10 : ¬ t1_c76.toInt = 0 := zi_ne c_10
                        refine lv_iload_n hx hb dX8_isLand_134 rfl (lv_at hl 1 rfl) ?_
                        refine lv_bipush (v := 114) hx hb dX8_isLand_135 (by decide) ?_
                        refine lv_icmp_ne (tgt := 167) hx hb dX8_isLand_137 (by decide) (fun c_11 => ?_) (fun c_11 => ?_)
                        · have f_11 : ¬ r_7.toInt = 114 := zi_ne c_11
                          refine lv_iload_n hx hb dX8_isLand_167 rfl (lv_at hl 0 rfl) ?_
                          refine lv_if_le (tgt := 194) hx hb dX8_isLand_168 (by decide) (fun c_12 => ?_) (fun c_12 => ?_)
                          · have f_12 : r_8.toInt ≤ 0 := zi_le c_12
                            refine lv_aload_n hx hb dX8_isLand_194 rfl (lv_at hl 3 rfl) ?_
                            refine lv_iconst (v := 1) hx hb dX8_isLand_195 (by decide) ?_
                            refine lv_aload_n hx hb dX8_isLand_196 rfl (lv_at hl 3 rfl) ?_
                            refine va_get (D := D) (ci := 7) (v := .int g1_c76) (C := RX8) (T := TX8) (N := 16) hx hb hts (fun _ h => List.mem_cons_of_mem _ (List.mem_append_right _ h)) hown hK hP 1 rfl rfl 10 (by decide) (hts (.fieldLink RX8 62 "WinterWalkModel" "at" "I") (List.mem_of_getElem? (i := 1) rfl)) (fun _ h9 => h9) rfl dX8_isLand_197 ?_
                            have k_13 := (p_X8_fails l D cI cB cQ H.size h sl zs ln ir tk tb tr fz na su le g0_c76 g1_c76 g2_c76 tc g3_c76 1 g1_c76 (by omega) (by omega))
                            refine wc_i (WC := [(h, .inr (7, [.ref sl, .int na, .ref zs, .ref ln, .ref ir, .ref tk, .int su, .int le, .ref tb, .int g0_c76, .int g1_c76, .int g2_c76, .ref tr, .int tc, .ref fz, .int g3_c76]))]) (WR := [(sl, .inl (cI, 1653, .inl g4_c76)), (tb, .inl (cB, 120, .inl tbf))]) (va_runV (As := [.int 1, .int g1_c76]) (rest := []) ⟨hx, hb, hml, hown, hts⟩ k_13 (cwV 2 hts gX8_isLand_X8_fails rfl rfl rfl (by decide +kernel) ⟨Nat.le_of_ble_eq_true rfl, Nat.le_of_ble_eq_true rfl⟩) (wp_V hP hK hD hN [1] (by decide) rfl (ci := 7) rfl rfl) rfl rfl hl.1 rfl (lv_room (Nat.le_of_ble_eq_true rfl)) dX8_isLand_200 ⟨Nat.le_of_ble_eq_true rfl, Nat.le_of_ble_eq_true rfl⟩) hP hD hS hA [1] [0, 2] rfl rfl (by decide) (by decide) (fun r_13 => pe2 (fun v13_0 v13_1 H locs hw_13 hP hD hS => ?_))
                            clear k_13
                            have hP : va_P D kl [(sl, .inl (cI, 1653, .inl g4_c76)), (tb, .inl (cB, 120, .inl tbf)), (h, .inr (7, [.ref sl, .int na, .ref zs, .ref ln, .ref ir, .ref tk, .int su, .int le, .ref tb, .int v13_0, .int g1_c76, .int v13_1, .ref tr, .int tc, .ref fz, .int g3_c76]))] H := hP
                            have hD : va_D A [(sl, .inl (cI, 1653, .inl g4_c76)), (tb, .inl (cB, 120, .inl tbf)), (h, .inr (7, [.ref sl, .int na, .ref zs, .ref ln, .ref ir, .ref tk, .int su, .int le, .ref tb, .int v13_0, .int g1_c76, .int v13_1, .ref tr, .int tc, .ref fz, .int g3_c76]))] := hD
                            obtain ⟨c13_0, c13_1, c13_2⟩ := hw_13
                            have c13_1 : v13_0.toInt = (1 : Int) ∧ v13_1.toInt = g1_c76.toInt := c13_1
                            have c13_2 : 0 ≤ v13_1.toInt ∧ v13_1.toInt ≤ 120 := c13_2
                            have e_13 := c13_0
                            · subst e_13
                              refine lv_istore (lv' := [(4, .int 0), (3, .int r_8), (2, .int r_7), (1, .int t1_c76), (0, .ref h)]) hx hb dX8_isLand_203 hl (by decide) rfl (fun ls hl => ?_)
                              refine lv_iload hx hb dX8_isLand_205 (lv_at hl 0 rfl) ?_
                              refine lv_if_ne (tgt := 212) hx hb dX8_isLand_207 (by decide) (fun c9 => absurd (by decide) c9) (fun _ => ?_)
                              refine lv_iconst (v := 0) hx hb dX8_isLand_210 (by decide) ?_
                              exact wr_z (v := 0) hx hb hr hlocks hS (v13_0, g1_c76, v13_1, g3_c76, g4_c76) (by exact ⟨Or.inr (⟨rfl, show (tpA (tbr tbf le.toInt) le.toInt fu.toInt pp.toInt).1.1 = 1 ∧ (tpA (tbr tbf le.toInt) le.toInt fu.toInt pp.toInt).1.2.1 = v13_0.toInt ∧ (tpA (tbr tbf le.toInt) le.toInt fu.toInt pp.toInt).1.2.2.1 = v13_1.toInt from tfa_1 (by rw [← q0_c76]; exact tpq_x (by omega) (by omega) (by omega) (by omega) (by omega) (by omega) (by omega) (by omega) (by omega))⟩), show 0 ≤ (g1_c76 : Int32).toInt ∧ (g1_c76 : Int32).toInt ≤ 120 from by omega, show 0 ≤ (v13_1 : Int32).toInt ∧ (v13_1 : Int32).toInt ≤ 120 from by omega, ha_g4_c76⟩) (hP.sub [2, 0, 1] rfl) (hD.sub [2, 0, 1] (by decide) rfl) dX8_isLand_211 rfl
                          · have f_12 : ¬ r_8.toInt ≤ 0 := zi_nle c_12
                            refine lv_aload_n hx hb dX8_isLand_171 rfl (lv_at hl 3 rfl) ?_
                            refine va_get (D := D) (ci := 7) (v := .ref sl) (C := RX8) (T := TX8) (N := 16) hx hb hts (fun _ h => List.mem_cons_of_mem _ (List.mem_append_right _ h)) hown hK hP 1 rfl rfl 0 (by decide) (hts (.fieldLink RX8 7 "WinterWalkModel" "slot" "[I") (List.mem_of_getElem? (i := 2) rfl)) (fun _ h9 => h9) rfl dX8_isLand_172 ?_
                            refine lv_sipush (v := 1597) hx hb dX8_isLand_175 (by decide) ?_
                            refine va_iald hx hb hK hP 0 0 rfl rfl (zi_in (by decide) (by decide)) dX8_isLand_178 ?_
                            refine lv_topi (fun x_14 ex_14 => ?_)
                            have f_14 : 0 ≤ x_14.toInt ∧ x_14.toInt ≤ 8 := by rw [ex_14]; exact si_v ha_g4_c76 (s := 28) (by decide) (by omega)
                            have u_14 : x_14.toInt = (ur g4_c76).1 := by rw [ex_14]; exact ux_v
                            refine lv_if_le (tgt := 194) hx hb dX8_isLand_179 (by decide) (fun c_15 => ?_) (fun c_15 => ?_)
                            · have f_15 : (ur g4_c76).1 ≤ 0 := by
                                have h8 := zi_le c_15
                                try rw [u_14] at h8
                                exact h8
                              refine lv_aload_n hx hb dX8_isLand_194 rfl (lv_at hl 3 rfl) ?_
                              refine lv_iconst (v := 1) hx hb dX8_isLand_195 (by decide) ?_
                              refine lv_aload_n hx hb dX8_isLand_196 rfl (lv_at hl 3 rfl) ?_
                              refine va_get (D := D) (ci := 7) (v := .int g1_c76) (C := RX8) (T := TX8) (N := 16) hx hb hts (fun _ h => List.mem_cons_of_mem _ (List.mem_append_right _ h)) hown hK hP 1 rfl rfl 10 (by decide) (hts (.fieldLink RX8 62 "WinterWalkModel" "at" "I") (List.mem_of_getElem? (i := 1) rfl)) (fun _ h9 => h9) rfl dX8_isLand_197 ?_
                              have k_16 := (p_X8_fails l D cI cB cQ H.size h sl zs ln ir tk tb tr fz na su le g0_c76 g1_c76 g2_c76 tc g3_c76 1 g1_c76 (by omega) (by omega))
                              refine wc_i (WC := [(h, .inr (7, [.ref sl, .int na, .ref zs, .ref ln, .ref ir, .ref tk, .int su, .int le, .ref tb, .int g0_c76, .int g1_c76, .int g2_c76, .ref tr, .int tc, .ref fz, .int g3_c76]))]) (WR := [(sl, .inl (cI, 1653, .inl g4_c76)), (tb, .inl (cB, 120, .inl tbf))]) (va_runV (As := [.int 1, .int g1_c76]) (rest := []) ⟨hx, hb, hml, hown, hts⟩ k_16 (cwV 2 hts gX8_isLand_X8_fails rfl rfl rfl (by decide +kernel) ⟨Nat.le_of_ble_eq_true rfl, Nat.le_of_ble_eq_true rfl⟩) (wp_V hP hK hD hN [1] (by decide) rfl (ci := 7) rfl rfl) rfl rfl hl.1 rfl (lv_room (Nat.le_of_ble_eq_true rfl)) dX8_isLand_200 ⟨Nat.le_of_ble_eq_true rfl, Nat.le_of_ble_eq_true rfl⟩) hP hD hS hA [1] [0, 2] rfl rfl (by decide) (by decide) (fun r_16 => pe2 (fun v16_0 v16_1 H locs hw_16 hP hD hS => ?_))
                              clear k_16
                              have hP : va_P D kl [(sl, .inl (cI, 1653, .inl g4_c76)), (tb, .inl (cB, 120, .inl tbf)), (h, .inr (7, [.ref sl, .int na, .ref zs, .ref ln, .ref ir, .ref tk, .int su, .int le, .ref tb, .int v16_0, .int g1_c76, .int v16_1, .ref tr, .int tc, .ref fz, .int g3_c76]))] H := hP
                              have hD : va_D A [(sl, .inl (cI, 1653, .inl g4_c76)), (tb, .inl (cB, 120, .inl tbf)), (h, .inr (7, [.ref sl, .int na, .ref zs, .ref ln, .ref ir, .ref tk, .int su, .int le, .ref tb, .int v16_0, .int g1_c76, .int v16_1, .ref tr, .int tc, .ref fz, .int g3_c76]))] := hD
                              obtain ⟨c16_0, c16_1, c16_2⟩ := hw_16
                              have c16_1 : v16_0.toInt = (1 : Int) ∧ v16_1.toInt = g1_c76.toInt := c16_1
                              have c16_2 : 0 ≤ v16_1.toInt ∧ v16_1.toInt ≤ 120 := c16_2
                              have e_16 := c16_0
                              · subst e_16
                                refine lv_istore (lv' := [(4, .int 0), (3, .int r_8), (2, .int r_7), (1, .int t1_c76), (0, .ref h)]) hx hb dX8_isLand_203 hl (by decide) rfl (fun ls hl => ?_)
                                refine lv_iload hx hb dX8_isLand_205 (lv_at hl 0 rfl) ?_
                                refine lv_if_ne (tgt := 212) hx hb dX8_isLand_207 (by decide) (fun c9 => absurd (by decide) c9) (fun _ => ?_)
                                refine lv_iconst (v := 0) hx hb dX8_isLand_210 (by decide) ?_
                                exact wr_z (v := 0) hx hb hr hlocks hS (v16_0, g1_c76, v16_1, g3_c76, g4_c76) (by exact ⟨Or.inr (⟨rfl, show (tpA (tbr tbf le.toInt) le.toInt fu.toInt pp.toInt).1.1 = 1 ∧ (tpA (tbr tbf le.toInt) le.toInt fu.toInt pp.toInt).1.2.1 = v16_0.toInt ∧ (tpA (tbr tbf le.toInt) le.toInt fu.toInt pp.toInt).1.2.2.1 = v16_1.toInt from tfa_1 (by rw [← q0_c76]; exact tpq_x (by omega) (by omega) (by omega) (by omega) (by omega) (by omega) (by omega) (by omega) (by omega))⟩), show 0 ≤ (g1_c76 : Int32).toInt ∧ (g1_c76 : Int32).toInt ≤ 120 from by omega, show 0 ≤ (v16_1 : Int32).toInt ∧ (v16_1 : Int32).toInt ≤ 120 from by omega, ha_g4_c76⟩) (hP.sub [2, 0, 1] rfl) (hD.sub [2, 0, 1] (by decide) rfl) dX8_isLand_211 rfl
                            · have f_15 : ¬ (ur g4_c76).1 ≤ 0 := by
                                have h8 := zi_nle c_15
                                try rw [u_14] at h8
                                exact h8
                              refine lv_iconst (v := 2) hx hb dX8_isLand_182 (by decide) ?_
                              refine lv_istore_n (lv' := [(1, .int 2), (3, .int r_8), (2, .int r_7), (0, .ref h)]) hx hb dX8_isLand_183 rfl hl (by decide) rfl (fun ls hl => ?_)
                              refine lv_aload_n hx hb dX8_isLand_184 rfl (lv_at hl 3 rfl) ?_
                              refine lv_iload_n hx hb dX8_isLand_185 rfl (lv_at hl 2 rfl) ?_
                              have k_17 := (p_X8_isWalker l D cI cB cQ H.size h sl zs ln ir tk tb tr fz na su le g0_c76 g1_c76 g2_c76 tc g3_c76 r_7 g4_c76 tbf v0 ha_g4_c76 (by omega) (by omega) (by omega) (by omega) (by omega) (by omega) (by omega))
                              refine wc_i (WC := [(h, .inr (7, [.ref sl, .int na, .ref zs, .ref ln, .ref ir, .ref tk, .int su, .int le, .ref tb, .int g0_c76, .int g1_c76, .int g2_c76, .ref tr, .int tc, .ref fz, .int g3_c76])), (sl, .inl (cI, 1653, .inl g4_c76)), (tb, .inl (cB, 120, .inl tbf))]) (WR := []) (va_runV (As := [.int r_7]) (rest := []) ⟨hx, hb, hml, hown, hts⟩ k_17 (cwV 1 hts gX8_isLand_X8_isWalker rfl rfl rfl (by decide +kernel) ⟨Nat.le_of_ble_eq_true rfl, Nat.le_of_ble_eq_true rfl⟩) (wp_V hP hK hD hN [1, 0, 2] (by decide) rfl (ci := 7) rfl rfl) rfl rfl hl.1 rfl (lv_room (Nat.le_of_ble_eq_true rfl)) dX8_isLand_186 ⟨Nat.le_of_ble_eq_true rfl, Nat.le_of_ble_eq_true rfl⟩) hP hD hS hA [1, 0, 2] [] rfl rfl (by decide) (by decide) (fun r_17 => pe5 (fun v17_0 v17_1 v17_2 v17_3 v17_4 H locs hw_17 hP hD hS => ?_))
                              clear k_17
                              have hP : va_P D kl [(h, .inr (7, [.ref sl, .int na, .ref zs, .ref ln, .ref ir, .ref tk, .int su, .int le, .ref tb, .int v17_0, .int v17_1, .int v17_2, .ref tr, .int tc, .ref fz, .int v17_3])), (sl, .inl (cI, 1653, .inl v17_4)), (tb, .inl (cB, 120, .inl tbf))] H := hP
                              have hD : va_D A [(h, .inr (7, [.ref sl, .int na, .ref zs, .ref ln, .ref ir, .ref tk, .int su, .int le, .ref tb, .int v17_0, .int v17_1, .int v17_2, .ref tr, .int tc, .ref fz, .int v17_3])), (sl, .inl (cI, 1653, .inl v17_4)), (tb, .inl (cB, 120, .inl tbf))] := hD
                              obtain ⟨c17_0, c17_1, c17_2, c17_3, c17_4⟩ := hw_17
                              have c17_1 : (g1_c76.toInt ≤ v17_1.toInt) := c17_1
                              have c17_2 : 0 ≤ v17_1.toInt ∧ v17_1.toInt ≤ 120 := c17_2
                              have c17_3 : 0 ≤ v17_2.toInt ∧ v17_2.toInt ≤ 120 := c17_3
                              have c17_4 : SI v17_4 v0 := c17_4
                              rcases c17_0 with ⟨e_17, f_17⟩ | ⟨e_17, f_17⟩
                              · subst e_17
                                have f_17 : ((((0, v17_0.toInt, v17_2.toInt, v17_1.toInt) : TPS), ur v17_4) : TPT) = tpW (tbr tbf le.toInt) ((0, g0_c76.toInt, g2_c76.toInt, g1_c76.toInt), ur g4_c76) ∧ g1_c76.toInt < v17_1.toInt ∧ (ur v17_4).1 = (ur g4_c76).1 ∧ (ur v17_4).2.1 = (ur g4_c76).2.1 := f_17
                                refine lv_istore (lv' := [(4, .int 1), (1, .int 2), (3, .int r_8), (2, .int r_7), (0, .ref h)]) hx hb dX8_isLand_189 hl (by decide) rfl (fun ls hl => ?_)
                                refine lv_goto (tgt := 205) hx hb dX8_isLand_191 (by decide) ?_
                                refine lv_iload hx hb dX8_isLand_205 (lv_at hl 0 rfl) ?_
                                refine lv_if_ne (tgt := 212) hx hb dX8_isLand_207 (by decide) (fun _ => ?_) (fun c9 => absurd c9 (by decide))
                                refine lv_goto (tgt := 76) hx hb dX8_isLand_212 (by decide) ?_
                                exact ih76 2 v17_0 v17_1 v17_2 v17_3 v17_4 _ _ _ (show 0 ≤ 2 ∧ 2 ≤ 2 from by omega) (show 0 ≤ v17_1.toInt ∧ v17_1.toInt ≤ 120 from by omega) (show 0 ≤ v17_2.toInt ∧ v17_2.toInt ≤ 120 from by omega) c17_4 (show 2 = 0 ∨ 1 ≤ (ur v17_4).1 from by omega) (show 0 ≤ (ur v17_4).1 from by omega) (show 0 ≤ (ur v17_4).2.1 ∧ (ur v17_4).2.1 ≤ 12 from by omega) (tpq_back q0_c76 (tpq_W (fun p hp => tbr_hi hp) (by omega) (by omega) (by omega) (by omega) (by omega)) f_17.1 (by first | omega | decide)) (by omega) (hP.sub [1, 0, 2] rfl) (hD.sub [1, 0, 2] (by decide) rfl) hS (lv_sub hl [1, 4] rfl)
                              · subst e_17
                                have f_17 : tfa (tpW (tbr tbf le.toInt) ((0, g0_c76.toInt, g2_c76.toInt, g1_c76.toInt), ur g4_c76)).1 v17_0.toInt v17_2.toInt := f_17
                                refine lv_istore (lv' := [(4, .int 0), (1, .int 2), (3, .int r_8), (2, .int r_7), (0, .ref h)]) hx hb dX8_isLand_189 hl (by decide) rfl (fun ls hl => ?_)
                                refine lv_goto (tgt := 205) hx hb dX8_isLand_191 (by decide) ?_
                                refine lv_iload hx hb dX8_isLand_205 (lv_at hl 0 rfl) ?_
                                refine lv_if_ne (tgt := 212) hx hb dX8_isLand_207 (by decide) (fun c9 => absurd (by decide) c9) (fun _ => ?_)
                                refine lv_iconst (v := 0) hx hb dX8_isLand_210 (by decide) ?_
                                exact wr_z (v := 0) hx hb hr hlocks hS (v17_0, v17_1, v17_2, v17_3, v17_4) (by exact ⟨Or.inr (⟨rfl, show (tpA (tbr tbf le.toInt) le.toInt fu.toInt pp.toInt).1.1 = 1 ∧ (tpA (tbr tbf le.toInt) le.toInt fu.toInt pp.toInt).1.2.1 = v17_0.toInt ∧ (tpA (tbr tbf le.toInt) le.toInt fu.toInt pp.toInt).1.2.2.1 = v17_2.toInt from tfa_1 (tpq_fb q0_c76 (tpq_W (fun p hp => tbr_hi hp) (by omega) (by omega) (by omega) (by omega) (by omega)) f_17)⟩), show 0 ≤ (v17_1 : Int32).toInt ∧ (v17_1 : Int32).toInt ≤ 120 from by omega, show 0 ≤ (v17_2 : Int32).toInt ∧ (v17_2 : Int32).toInt ≤ 120 from by omega, c17_4⟩) (hP.sub [0, 1, 2] rfl) (hD.sub [0, 1, 2] (by decide) rfl) dX8_isLand_211 rfl
                        · have f_11 : r_7.toInt = 114 := zi_eq c_11
                          exfalso; omega
                      · have f_10 : t1_c76.toInt = 0 := zi_eq c_10
                        refine lv_aload_n hx hb dX8_isLand_124 rfl (lv_at hl 3 rfl) ?_
                        refine lv_iload_n hx hb dX8_isLand_125 rfl (lv_at hl 1 rfl) ?_
                        have k_18 := (p_X8_isVillage l D cI cB cQ H.size h sl zs ln ir tk tb tr fz na su le g0_c76 g1_c76 g2_c76 tc g3_c76 r_7 g4_c76 tbf v0 ha_g4_c76 (by omega) (by omega) (by omega) (by omega) (by omega) (by omega))
                        refine wc_i (WC := [(h, .inr (7, [.ref sl, .int na, .ref zs, .ref ln, .ref ir, .ref tk, .int su, .int le, .ref tb, .int g0_c76, .int g1_c76, .int g2_c76, .ref tr, .int tc, .ref fz, .int g3_c76])), (sl, .inl (cI, 1653, .inl g4_c76)), (tb, .inl (cB, 120, .inl tbf))]) (WR := []) (va_runV (As := [.int r_7]) (rest := []) ⟨hx, hb, hml, hown, hts⟩ k_18 (cwV 1 hts gX8_isLand_X8_isVillage rfl rfl rfl (by decide +kernel) ⟨Nat.le_of_ble_eq_true rfl, Nat.le_of_ble_eq_true rfl⟩) (wp_V hP hK hD hN [1, 0, 2] (by decide) rfl (ci := 7) rfl rfl) rfl rfl hl.1 rfl (lv_room (Nat.le_of_ble_eq_true rfl)) dX8_isLand_126 ⟨Nat.le_of_ble_eq_true rfl, Nat.le_of_ble_eq_true rfl⟩) hP hD hS hA [1, 0, 2] [] rfl rfl (by decide) (by decide) (fun r_18 => pe5 (fun v18_0 v18_1 v18_2 v18_3 v18_4 H locs hw_18 hP hD hS => ?_))
                        clear k_18
                        have hP : va_P D kl [(h, .inr (7, [.ref sl, .int na, .ref zs, .ref ln, .ref ir, .ref tk, .int su, .int le, .ref tb, .int v18_0, .int v18_1, .int v18_2, .ref tr, .int tc, .ref fz, .int v18_3])), (sl, .inl (cI, 1653, .inl v18_4)), (tb, .inl (cB, 120, .inl tbf))] H := hP
                        have hD : va_D A [(h, .inr (7, [.ref sl, .int na, .ref zs, .ref ln, .ref ir, .ref tk, .int su, .int le, .ref tb, .int v18_0, .int v18_1, .int v18_2, .ref tr, .int tc, .ref fz, .int v18_3])), (sl, .inl (cI, 1653, .inl v18_4)), (tb, .inl (cB, 120, .inl tbf))] := hD
                        obtain ⟨c18_0, c18_1, c18_2, c18_3, c18_4⟩ := hw_18
                        have c18_1 : (g1_c76.toInt ≤ v18_1.toInt) := c18_1
                        have c18_2 : 0 ≤ v18_1.toInt ∧ v18_1.toInt ≤ 120 := c18_2
                        have c18_3 : 0 ≤ v18_2.toInt ∧ v18_2.toInt ≤ 120 := c18_3
                        have c18_4 : SI v18_4 v0 := c18_4
                        rcases c18_0 with ⟨e_18, f_18⟩ | ⟨e_18, f_18⟩
                        · subst e_18
                          have f_18 : ((((0, v18_0.toInt, v18_2.toInt, v18_1.toInt) : TPS), ur v18_4) : TPT) = tpV (tbr tbf le.toInt) ((0, g0_c76.toInt, g2_c76.toInt, g1_c76.toInt), ur g4_c76) ∧ g1_c76.toInt < v18_1.toInt ∧ (ur v18_4).1 = (ur g4_c76).1 + 1 ∧ (ur v18_4).2.1 = (ur g4_c76).2.1 := f_18
                          refine lv_istore (lv' := [(4, .int 1), (3, .int r_8), (2, .int r_7), (1, .int t1_c76), (0, .ref h)]) hx hb dX8_isLand_129 hl (by decide) rfl (fun ls hl => ?_)
                          refine lv_goto (tgt := 205) hx hb dX8_isLand_131 (by decide) ?_
                          refine lv_iload hx hb dX8_isLand_205 (lv_at hl 0 rfl) ?_
                          refine lv_if_ne (tgt := 212) hx hb dX8_isLand_207 (by decide) (fun _ => ?_) (fun c9 => absurd c9 (by decide))
                          refine lv_goto (tgt := 76) hx hb dX8_isLand_212 (by decide) ?_
                          exact ih76 t1_c76 v18_0 v18_1 v18_2 v18_3 v18_4 _ _ _ (show 0 ≤ t1_c76.toInt ∧ t1_c76.toInt ≤ 2 from by omega) (show 0 ≤ v18_1.toInt ∧ v18_1.toInt ≤ 120 from by omega) (show 0 ≤ v18_2.toInt ∧ v18_2.toInt ≤ 120 from by omega) c18_4 (show t1_c76.toInt = 0 ∨ 1 ≤ (ur v18_4).1 from by omega) (show 0 ≤ (ur v18_4).1 from by omega) (show 0 ≤ (ur v18_4).2.1 ∧ (ur v18_4).2.1 ≤ 12 from by omega) (tpq_back q0_c76 (tpq_V (fun p hp => tbr_hi hp) (by omega) (by omega) (by omega) (by omega) (by omega)) f_18.1 (by first | omega | decide)) (by omega) (hP.sub [1, 0, 2] rfl) (hD.sub [1, 0, 2] (by decide) rfl) hS (lv_sub hl [3, 4] rfl)
                        · subst e_18
                          have f_18 : tfa (tpV (tbr tbf le.toInt) ((0, g0_c76.toInt, g2_c76.toInt, g1_c76.toInt), ur g4_c76)).1 v18_0.toInt v18_2.toInt := f_18
                          refine lv_istore (lv' := [(4, .int 0), (3, .int r_8), (2, .int r_7), (1, .int t1_c76), (0, .ref h)]) hx hb dX8_isLand_129 hl (by decide) rfl (fun ls hl => ?_)
                          refine lv_goto (tgt := 205) hx hb dX8_isLand_131 (by decide) ?_
                          refine lv_iload hx hb dX8_isLand_205 (lv_at hl 0 rfl) ?_
                          refine lv_if_ne (tgt := 212) hx hb dX8_isLand_207 (by decide) (fun c9 => absurd (by decide) c9) (fun _ => ?_)
                          refine lv_iconst (v := 0) hx hb dX8_isLand_210 (by decide) ?_
                          exact wr_z (v := 0) hx hb hr hlocks hS (v18_0, v18_1, v18_2, v18_3, v18_4) (by exact ⟨Or.inr (⟨rfl, show (tpA (tbr tbf le.toInt) le.toInt fu.toInt pp.toInt).1.1 = 1 ∧ (tpA (tbr tbf le.toInt) le.toInt fu.toInt pp.toInt).1.2.1 = v18_0.toInt ∧ (tpA (tbr tbf le.toInt) le.toInt fu.toInt pp.toInt).1.2.2.1 = v18_2.toInt from tfa_1 (tpq_fb q0_c76 (tpq_V (fun p hp => tbr_hi hp) (by omega) (by omega) (by omega) (by omega) (by omega)) f_18)⟩), show 0 ≤ (v18_1 : Int32).toInt ∧ (v18_1 : Int32).toInt ≤ 120 from by omega, show 0 ≤ (v18_2 : Int32).toInt ∧ (v18_2 : Int32).toInt ≤ 120 from by omega, c18_4⟩) (hP.sub [0, 1, 2] rfl) (hD.sub [0, 1, 2] (by decide) rfl) dX8_isLand_211 rfl
                    · have f_9 : ¬ r_7.toInt = 103 := zi_ne c_9
                      refine lv_iload_n hx hb dX8_isLand_114 rfl (lv_at hl 1 rfl) ?_
                      refine lv_bipush (v := 99) hx hb dX8_isLand_115 (by decide) ?_
                      refine lv_icmp_ne (tgt := 134) hx hb dX8_isLand_117 (by decide) (fun c_19 => ?_) (fun c_19 => ?_)
                      · have f_19 : ¬ r_7.toInt = 99 := zi_ne c_19
                        refine lv_iload_n hx hb dX8_isLand_134 rfl (lv_at hl 1 rfl) ?_
                        refine lv_bipush (v := 114) hx hb dX8_isLand_135 (by decide) ?_
                        refine lv_icmp_ne (tgt := 167) hx hb dX8_isLand_137 (by decide) (fun c_20 => ?_) (fun c_20 => ?_)
                        · have f_20 : ¬ r_7.toInt = 114 := zi_ne c_20
                          refine lv_iload_n hx hb dX8_isLand_167 rfl (lv_at hl 0 rfl) ?_
                          refine lv_if_le (tgt := 194) hx hb dX8_isLand_168 (by decide) (fun c_21 => ?_) (fun c_21 => ?_)
                          · have f_21 : r_8.toInt ≤ 0 := zi_le c_21
                            refine lv_aload_n hx hb dX8_isLand_194 rfl (lv_at hl 3 rfl) ?_
                            refine lv_iconst (v := 1) hx hb dX8_isLand_195 (by decide) ?_
                            refine lv_aload_n hx hb dX8_isLand_196 rfl (lv_at hl 3 rfl) ?_
                            refine va_get (D := D) (ci := 7) (v := .int g1_c76) (C := RX8) (T := TX8) (N := 16) hx hb hts (fun _ h => List.mem_cons_of_mem _ (List.mem_append_right _ h)) hown hK hP 1 rfl rfl 10 (by decide) (hts (.fieldLink RX8 62 "WinterWalkModel" "at" "I") (List.mem_of_getElem? (i := 1) rfl)) (fun _ h9 => h9) rfl dX8_isLand_197 ?_
                            have k_22 := (p_X8_fails l D cI cB cQ H.size h sl zs ln ir tk tb tr fz na su le g0_c76 g1_c76 g2_c76 tc g3_c76 1 g1_c76 (by omega) (by omega))
                            refine wc_i (WC := [(h, .inr (7, [.ref sl, .int na, .ref zs, .ref ln, .ref ir, .ref tk, .int su, .int le, .ref tb, .int g0_c76, .int g1_c76, .int g2_c76, .ref tr, .int tc, .ref fz, .int g3_c76]))]) (WR := [(sl, .inl (cI, 1653, .inl g4_c76)), (tb, .inl (cB, 120, .inl tbf))]) (va_runV (As := [.int 1, .int g1_c76]) (rest := []) ⟨hx, hb, hml, hown, hts⟩ k_22 (cwV 2 hts gX8_isLand_X8_fails rfl rfl rfl (by decide +kernel) ⟨Nat.le_of_ble_eq_true rfl, Nat.le_of_ble_eq_true rfl⟩) (wp_V hP hK hD hN [1] (by decide) rfl (ci := 7) rfl rfl) rfl rfl hl.1 rfl (lv_room (Nat.le_of_ble_eq_true rfl)) dX8_isLand_200 ⟨Nat.le_of_ble_eq_true rfl, Nat.le_of_ble_eq_true rfl⟩) hP hD hS hA [1] [0, 2] rfl rfl (by decide) (by decide) (fun r_22 => pe2 (fun v22_0 v22_1 H locs hw_22 hP hD hS => ?_))
                            clear k_22
                            have hP : va_P D kl [(sl, .inl (cI, 1653, .inl g4_c76)), (tb, .inl (cB, 120, .inl tbf)), (h, .inr (7, [.ref sl, .int na, .ref zs, .ref ln, .ref ir, .ref tk, .int su, .int le, .ref tb, .int v22_0, .int g1_c76, .int v22_1, .ref tr, .int tc, .ref fz, .int g3_c76]))] H := hP
                            have hD : va_D A [(sl, .inl (cI, 1653, .inl g4_c76)), (tb, .inl (cB, 120, .inl tbf)), (h, .inr (7, [.ref sl, .int na, .ref zs, .ref ln, .ref ir, .ref tk, .int su, .int le, .ref tb, .int v22_0, .int g1_c76, .int v22_1, .ref tr, .int tc, .ref fz, .int g3_c76]))] := hD
                            obtain ⟨c22_0, c22_1, c22_2⟩ := hw_22
                            have c22_1 : v22_0.toInt = (1 : Int) ∧ v22_1.toInt = g1_c76.toInt := c22_1
                            have c22_2 : 0 ≤ v22_1.toInt ∧ v22_1.toInt ≤ 120 := c22_2
                            have e_22 := c22_0
                            · subst e_22
                              refine lv_istore (lv' := [(4, .int 0), (3, .int r_8), (2, .int r_7), (1, .int t1_c76), (0, .ref h)]) hx hb dX8_isLand_203 hl (by decide) rfl (fun ls hl => ?_)
                              refine lv_iload hx hb dX8_isLand_205 (lv_at hl 0 rfl) ?_
                              refine lv_if_ne (tgt := 212) hx hb dX8_isLand_207 (by decide) (fun c9 => absurd (by decide) c9) (fun _ => ?_)
                              refine lv_iconst (v := 0) hx hb dX8_isLand_210 (by decide) ?_
                              exact wr_z (v := 0) hx hb hr hlocks hS (v22_0, g1_c76, v22_1, g3_c76, g4_c76) (by exact ⟨Or.inr (⟨rfl, show (tpA (tbr tbf le.toInt) le.toInt fu.toInt pp.toInt).1.1 = 1 ∧ (tpA (tbr tbf le.toInt) le.toInt fu.toInt pp.toInt).1.2.1 = v22_0.toInt ∧ (tpA (tbr tbf le.toInt) le.toInt fu.toInt pp.toInt).1.2.2.1 = v22_1.toInt from tfa_1 (by rw [← q0_c76]; exact tpq_x (by omega) (by omega) (by omega) (by omega) (by omega) (by omega) (by omega) (by omega) (by omega))⟩), show 0 ≤ (g1_c76 : Int32).toInt ∧ (g1_c76 : Int32).toInt ≤ 120 from by omega, show 0 ≤ (v22_1 : Int32).toInt ∧ (v22_1 : Int32).toInt ≤ 120 from by omega, ha_g4_c76⟩) (hP.sub [2, 0, 1] rfl) (hD.sub [2, 0, 1] (by decide) rfl) dX8_isLand_211 rfl
                          · have f_21 : ¬ r_8.toInt ≤ 0 := zi_nle c_21
                            refine lv_aload_n hx hb dX8_isLand_171 rfl (lv_at hl 3 rfl) ?_
                            refine va_get (D := D) (ci := 7) (v := .ref sl) (C := RX8) (T := TX8) (N := 16) hx hb hts (fun _ h => List.mem_cons_of_mem _ (List.mem_append_right _ h)) hown hK hP 1 rfl rfl 0 (by decide) (hts (.fieldLink RX8 7 "WinterWalkModel" "slot" "[I") (List.mem_of_getElem? (i := 2) rfl)) (fun _ h9 => h9) rfl dX8_isLand_172 ?_
                            refine lv_sipush (v := 1597) hx hb dX8_isLand_175 (by decide) ?_
                            refine va_iald hx hb hK hP 0 0 rfl rfl (zi_in (by decide) (by decide)) dX8_isLand_178 ?_
                            refine lv_topi (fun x_23 ex_23 => ?_)
                            have f_23 : 0 ≤ x_23.toInt ∧ x_23.toInt ≤ 8 := by rw [ex_23]; exact si_v ha_g4_c76 (s := 28) (by decide) (by omega)
                            have u_23 : x_23.toInt = (ur g4_c76).1 := by rw [ex_23]; exact ux_v
                            refine lv_if_le (tgt := 194) hx hb dX8_isLand_179 (by decide) (fun c_24 => ?_) (fun c_24 => ?_)
                            · have f_24 : (ur g4_c76).1 ≤ 0 := by
                                have h8 := zi_le c_24
                                try rw [u_23] at h8
                                exact h8
                              refine lv_aload_n hx hb dX8_isLand_194 rfl (lv_at hl 3 rfl) ?_
                              refine lv_iconst (v := 1) hx hb dX8_isLand_195 (by decide) ?_
                              refine lv_aload_n hx hb dX8_isLand_196 rfl (lv_at hl 3 rfl) ?_
                              refine va_get (D := D) (ci := 7) (v := .int g1_c76) (C := RX8) (T := TX8) (N := 16) hx hb hts (fun _ h => List.mem_cons_of_mem _ (List.mem_append_right _ h)) hown hK hP 1 rfl rfl 10 (by decide) (hts (.fieldLink RX8 62 "WinterWalkModel" "at" "I") (List.mem_of_getElem? (i := 1) rfl)) (fun _ h9 => h9) rfl dX8_isLand_197 ?_
                              have k_25 := (p_X8_fails l D cI cB cQ H.size h sl zs ln ir tk tb tr fz na su le g0_c76 g1_c76 g2_c76 tc g3_c76 1 g1_c76 (by omega) (by omega))
                              refine wc_i (WC := [(h, .inr (7, [.ref sl, .int na, .ref zs, .ref ln, .ref ir, .ref tk, .int su, .int le, .ref tb, .int g0_c76, .int g1_c76, .int g2_c76, .ref tr, .int tc, .ref fz, .int g3_c76]))]) (WR := [(sl, .inl (cI, 1653, .inl g4_c76)), (tb, .inl (cB, 120, .inl tbf))]) (va_runV (As := [.int 1, .int g1_c76]) (rest := []) ⟨hx, hb, hml, hown, hts⟩ k_25 (cwV 2 hts gX8_isLand_X8_fails rfl rfl rfl (by decide +kernel) ⟨Nat.le_of_ble_eq_true rfl, Nat.le_of_ble_eq_true rfl⟩) (wp_V hP hK hD hN [1] (by decide) rfl (ci := 7) rfl rfl) rfl rfl hl.1 rfl (lv_room (Nat.le_of_ble_eq_true rfl)) dX8_isLand_200 ⟨Nat.le_of_ble_eq_true rfl, Nat.le_of_ble_eq_true rfl⟩) hP hD hS hA [1] [0, 2] rfl rfl (by decide) (by decide) (fun r_25 => pe2 (fun v25_0 v25_1 H locs hw_25 hP hD hS => ?_))
                              clear k_25
                              have hP : va_P D kl [(sl, .inl (cI, 1653, .inl g4_c76)), (tb, .inl (cB, 120, .inl tbf)), (h, .inr (7, [.ref sl, .int na, .ref zs, .ref ln, .ref ir, .ref tk, .int su, .int le, .ref tb, .int v25_0, .int g1_c76, .int v25_1, .ref tr, .int tc, .ref fz, .int g3_c76]))] H := hP
                              have hD : va_D A [(sl, .inl (cI, 1653, .inl g4_c76)), (tb, .inl (cB, 120, .inl tbf)), (h, .inr (7, [.ref sl, .int na, .ref zs, .ref ln, .ref ir, .ref tk, .int su, .int le, .ref tb, .int v25_0, .int g1_c76, .int v25_1, .ref tr, .int tc, .ref fz, .int g3_c76]))] := hD
                              obtain ⟨c25_0, c25_1, c25_2⟩ := hw_25
                              have c25_1 : v25_0.toInt = (1 : Int) ∧ v25_1.toInt = g1_c76.toInt := c25_1
                              have c25_2 : 0 ≤ v25_1.toInt ∧ v25_1.toInt ≤ 120 := c25_2
                              have e_25 := c25_0
                              · subst e_25
                                refine lv_istore (lv' := [(4, .int 0), (3, .int r_8), (2, .int r_7), (1, .int t1_c76), (0, .ref h)]) hx hb dX8_isLand_203 hl (by decide) rfl (fun ls hl => ?_)
                                refine lv_iload hx hb dX8_isLand_205 (lv_at hl 0 rfl) ?_
                                refine lv_if_ne (tgt := 212) hx hb dX8_isLand_207 (by decide) (fun c9 => absurd (by decide) c9) (fun _ => ?_)
                                refine lv_iconst (v := 0) hx hb dX8_isLand_210 (by decide) ?_
                                exact wr_z (v := 0) hx hb hr hlocks hS (v25_0, g1_c76, v25_1, g3_c76, g4_c76) (by exact ⟨Or.inr (⟨rfl, show (tpA (tbr tbf le.toInt) le.toInt fu.toInt pp.toInt).1.1 = 1 ∧ (tpA (tbr tbf le.toInt) le.toInt fu.toInt pp.toInt).1.2.1 = v25_0.toInt ∧ (tpA (tbr tbf le.toInt) le.toInt fu.toInt pp.toInt).1.2.2.1 = v25_1.toInt from tfa_1 (by rw [← q0_c76]; exact tpq_x (by omega) (by omega) (by omega) (by omega) (by omega) (by omega) (by omega) (by omega) (by omega))⟩), show 0 ≤ (g1_c76 : Int32).toInt ∧ (g1_c76 : Int32).toInt ≤ 120 from by omega, show 0 ≤ (v25_1 : Int32).toInt ∧ (v25_1 : Int32).toInt ≤ 120 from by omega, ha_g4_c76⟩) (hP.sub [2, 0, 1] rfl) (hD.sub [2, 0, 1] (by decide) rfl) dX8_isLand_211 rfl
                            · have f_24 : ¬ (ur g4_c76).1 ≤ 0 := by
                                have h8 := zi_nle c_24
                                try rw [u_23] at h8
                                exact h8
                              refine lv_iconst (v := 2) hx hb dX8_isLand_182 (by decide) ?_
                              refine lv_istore_n (lv' := [(1, .int 2), (3, .int r_8), (2, .int r_7), (0, .ref h)]) hx hb dX8_isLand_183 rfl hl (by decide) rfl (fun ls hl => ?_)
                              refine lv_aload_n hx hb dX8_isLand_184 rfl (lv_at hl 3 rfl) ?_
                              refine lv_iload_n hx hb dX8_isLand_185 rfl (lv_at hl 2 rfl) ?_
                              have k_26 := (p_X8_isWalker l D cI cB cQ H.size h sl zs ln ir tk tb tr fz na su le g0_c76 g1_c76 g2_c76 tc g3_c76 r_7 g4_c76 tbf v0 ha_g4_c76 (by omega) (by omega) (by omega) (by omega) (by omega) (by omega) (by omega))
                              refine wc_i (WC := [(h, .inr (7, [.ref sl, .int na, .ref zs, .ref ln, .ref ir, .ref tk, .int su, .int le, .ref tb, .int g0_c76, .int g1_c76, .int g2_c76, .ref tr, .int tc, .ref fz, .int g3_c76])), (sl, .inl (cI, 1653, .inl g4_c76)), (tb, .inl (cB, 120, .inl tbf))]) (WR := []) (va_runV (As := [.int r_7]) (rest := []) ⟨hx, hb, hml, hown, hts⟩ k_26 (cwV 1 hts gX8_isLand_X8_isWalker rfl rfl rfl (by decide +kernel) ⟨Nat.le_of_ble_eq_true rfl, Nat.le_of_ble_eq_true rfl⟩) (wp_V hP hK hD hN [1, 0, 2] (by decide) rfl (ci := 7) rfl rfl) rfl rfl hl.1 rfl (lv_room (Nat.le_of_ble_eq_true rfl)) dX8_isLand_186 ⟨Nat.le_of_ble_eq_true rfl, Nat.le_of_ble_eq_true rfl⟩) hP hD hS hA [1, 0, 2] [] rfl rfl (by decide) (by decide) (fun r_26 => pe5 (fun v26_0 v26_1 v26_2 v26_3 v26_4 H locs hw_26 hP hD hS => ?_))
                              clear k_26
                              have hP : va_P D kl [(h, .inr (7, [.ref sl, .int na, .ref zs, .ref ln, .ref ir, .ref tk, .int su, .int le, .ref tb, .int v26_0, .int v26_1, .int v26_2, .ref tr, .int tc, .ref fz, .int v26_3])), (sl, .inl (cI, 1653, .inl v26_4)), (tb, .inl (cB, 120, .inl tbf))] H := hP
                              have hD : va_D A [(h, .inr (7, [.ref sl, .int na, .ref zs, .ref ln, .ref ir, .ref tk, .int su, .int le, .ref tb, .int v26_0, .int v26_1, .int v26_2, .ref tr, .int tc, .ref fz, .int v26_3])), (sl, .inl (cI, 1653, .inl v26_4)), (tb, .inl (cB, 120, .inl tbf))] := hD
                              obtain ⟨c26_0, c26_1, c26_2, c26_3, c26_4⟩ := hw_26
                              have c26_1 : (g1_c76.toInt ≤ v26_1.toInt) := c26_1
                              have c26_2 : 0 ≤ v26_1.toInt ∧ v26_1.toInt ≤ 120 := c26_2
                              have c26_3 : 0 ≤ v26_2.toInt ∧ v26_2.toInt ≤ 120 := c26_3
                              have c26_4 : SI v26_4 v0 := c26_4
                              rcases c26_0 with ⟨e_26, f_26⟩ | ⟨e_26, f_26⟩
                              · subst e_26
                                have f_26 : ((((0, v26_0.toInt, v26_2.toInt, v26_1.toInt) : TPS), ur v26_4) : TPT) = tpW (tbr tbf le.toInt) ((0, g0_c76.toInt, g2_c76.toInt, g1_c76.toInt), ur g4_c76) ∧ g1_c76.toInt < v26_1.toInt ∧ (ur v26_4).1 = (ur g4_c76).1 ∧ (ur v26_4).2.1 = (ur g4_c76).2.1 := f_26
                                refine lv_istore (lv' := [(4, .int 1), (1, .int 2), (3, .int r_8), (2, .int r_7), (0, .ref h)]) hx hb dX8_isLand_189 hl (by decide) rfl (fun ls hl => ?_)
                                refine lv_goto (tgt := 205) hx hb dX8_isLand_191 (by decide) ?_
                                refine lv_iload hx hb dX8_isLand_205 (lv_at hl 0 rfl) ?_
                                refine lv_if_ne (tgt := 212) hx hb dX8_isLand_207 (by decide) (fun _ => ?_) (fun c9 => absurd c9 (by decide))
                                refine lv_goto (tgt := 76) hx hb dX8_isLand_212 (by decide) ?_
                                exact ih76 2 v26_0 v26_1 v26_2 v26_3 v26_4 _ _ _ (show 0 ≤ 2 ∧ 2 ≤ 2 from by omega) (show 0 ≤ v26_1.toInt ∧ v26_1.toInt ≤ 120 from by omega) (show 0 ≤ v26_2.toInt ∧ v26_2.toInt ≤ 120 from by omega) c26_4 (show 2 = 0 ∨ 1 ≤ (ur v26_4).1 from by omega) (show 0 ≤ (ur v26_4).1 from by omega) (show 0 ≤ (ur v26_4).2.1 ∧ (ur v26_4).2.1 ≤ 12 from by omega) (tpq_back q0_c76 (tpq_W (fun p hp => tbr_hi hp) (by omega) (by omega) (by omega) (by omega) (by omega)) f_26.1 (by first | omega | decide)) (by omega) (hP.sub [1, 0, 2] rfl) (hD.sub [1, 0, 2] (by decide) rfl) hS (lv_sub hl [1, 4] rfl)
                              · subst e_26
                                have f_26 : tfa (tpW (tbr tbf le.toInt) ((0, g0_c76.toInt, g2_c76.toInt, g1_c76.toInt), ur g4_c76)).1 v26_0.toInt v26_2.toInt := f_26
                                refine lv_istore (lv' := [(4, .int 0), (1, .int 2), (3, .int r_8), (2, .int r_7), (0, .ref h)]) hx hb dX8_isLand_189 hl (by decide) rfl (fun ls hl => ?_)
                                refine lv_goto (tgt := 205) hx hb dX8_isLand_191 (by decide) ?_
                                refine lv_iload hx hb dX8_isLand_205 (lv_at hl 0 rfl) ?_
                                refine lv_if_ne (tgt := 212) hx hb dX8_isLand_207 (by decide) (fun c9 => absurd (by decide) c9) (fun _ => ?_)
                                refine lv_iconst (v := 0) hx hb dX8_isLand_210 (by decide) ?_
                                exact wr_z (v := 0) hx hb hr hlocks hS (v26_0, v26_1, v26_2, v26_3, v26_4) (by exact ⟨Or.inr (⟨rfl, show (tpA (tbr tbf le.toInt) le.toInt fu.toInt pp.toInt).1.1 = 1 ∧ (tpA (tbr tbf le.toInt) le.toInt fu.toInt pp.toInt).1.2.1 = v26_0.toInt ∧ (tpA (tbr tbf le.toInt) le.toInt fu.toInt pp.toInt).1.2.2.1 = v26_2.toInt from tfa_1 (tpq_fb q0_c76 (tpq_W (fun p hp => tbr_hi hp) (by omega) (by omega) (by omega) (by omega) (by omega)) f_26)⟩), show 0 ≤ (v26_1 : Int32).toInt ∧ (v26_1 : Int32).toInt ≤ 120 from by omega, show 0 ≤ (v26_2 : Int32).toInt ∧ (v26_2 : Int32).toInt ≤ 120 from by omega, c26_4⟩) (hP.sub [0, 1, 2] rfl) (hD.sub [0, 1, 2] (by decide) rfl) dX8_isLand_211 rfl
                        · have f_20 : r_7.toInt = 114 := zi_eq c_20
                          refine lv_iload_n hx hb dX8_isLand_140 rfl (lv_at hl 2 rfl) ?_
                          refine lv_iconst (v := 2) hx hb dX8_isLand_141 (by decide) ?_
                          refine lv_icmp_ge (tgt := 167) hx hb dX8_isLand_142 (by decide) (fun c_27 => ?_) (fun c_27 => ?_)
                          · have f_27 : 2 ≤ t1_c76.toInt := zi_le c_27
                            refine lv_iload_n hx hb dX8_isLand_167 rfl (lv_at hl 0 rfl) ?_
                            refine lv_if_le (tgt := 194) hx hb dX8_isLand_168 (by decide) (fun c_28 => ?_) (fun c_28 => ?_)
                            · have f_28 : r_8.toInt ≤ 0 := zi_le c_28
                              refine lv_aload_n hx hb dX8_isLand_194 rfl (lv_at hl 3 rfl) ?_
                              refine lv_iconst (v := 1) hx hb dX8_isLand_195 (by decide) ?_
                              refine lv_aload_n hx hb dX8_isLand_196 rfl (lv_at hl 3 rfl) ?_
                              refine va_get (D := D) (ci := 7) (v := .int g1_c76) (C := RX8) (T := TX8) (N := 16) hx hb hts (fun _ h => List.mem_cons_of_mem _ (List.mem_append_right _ h)) hown hK hP 1 rfl rfl 10 (by decide) (hts (.fieldLink RX8 62 "WinterWalkModel" "at" "I") (List.mem_of_getElem? (i := 1) rfl)) (fun _ h9 => h9) rfl dX8_isLand_197 ?_
                              have k_29 := (p_X8_fails l D cI cB cQ H.size h sl zs ln ir tk tb tr fz na su le g0_c76 g1_c76 g2_c76 tc g3_c76 1 g1_c76 (by omega) (by omega))
                              refine wc_i (WC := [(h, .inr (7, [.ref sl, .int na, .ref zs, .ref ln, .ref ir, .ref tk, .int su, .int le, .ref tb, .int g0_c76, .int g1_c76, .int g2_c76, .ref tr, .int tc, .ref fz, .int g3_c76]))]) (WR := [(sl, .inl (cI, 1653, .inl g4_c76)), (tb, .inl (cB, 120, .inl tbf))]) (va_runV (As := [.int 1, .int g1_c76]) (rest := []) ⟨hx, hb, hml, hown, hts⟩ k_29 (cwV 2 hts gX8_isLand_X8_fails rfl rfl rfl (by decide +kernel) ⟨Nat.le_of_ble_eq_true rfl, Nat.le_of_ble_eq_true rfl⟩) (wp_V hP hK hD hN [1] (by decide) rfl (ci := 7) rfl rfl) rfl rfl hl.1 rfl (lv_room (Nat.le_of_ble_eq_true rfl)) dX8_isLand_200 ⟨Nat.le_of_ble_eq_true rfl, Nat.le_of_ble_eq_true rfl⟩) hP hD hS hA [1] [0, 2] rfl rfl (by decide) (by decide) (fun r_29 => pe2 (fun v29_0 v29_1 H locs hw_29 hP hD hS => ?_))
                              clear k_29
                              have hP : va_P D kl [(sl, .inl (cI, 1653, .inl g4_c76)), (tb, .inl (cB, 120, .inl tbf)), (h, .inr (7, [.ref sl, .int na, .ref zs, .ref ln, .ref ir, .ref tk, .int su, .int le, .ref tb, .int v29_0, .int g1_c76, .int v29_1, .ref tr, .int tc, .ref fz, .int g3_c76]))] H := hP
                              have hD : va_D A [(sl, .inl (cI, 1653, .inl g4_c76)), (tb, .inl (cB, 120, .inl tbf)), (h, .inr (7, [.ref sl, .int na, .ref zs, .ref ln, .ref ir, .ref tk, .int su, .int le, .ref tb, .int v29_0, .int g1_c76, .int v29_1, .ref tr, .int tc, .ref fz, .int g3_c76]))] := hD
                              obtain ⟨c29_0, c29_1, c29_2⟩ := hw_29
                              have c29_1 : v29_0.toInt = (1 : Int) ∧ v29_1.toInt = g1_c76.toInt := c29_1
                              have c29_2 : 0 ≤ v29_1.toInt ∧ v29_1.toInt ≤ 120 := c29_2
                              have e_29 := c29_0
                              · subst e_29
                                refine lv_istore (lv' := [(4, .int 0), (3, .int r_8), (2, .int r_7), (1, .int t1_c76), (0, .ref h)]) hx hb dX8_isLand_203 hl (by decide) rfl (fun ls hl => ?_)
                                refine lv_iload hx hb dX8_isLand_205 (lv_at hl 0 rfl) ?_
                                refine lv_if_ne (tgt := 212) hx hb dX8_isLand_207 (by decide) (fun c9 => absurd (by decide) c9) (fun _ => ?_)
                                refine lv_iconst (v := 0) hx hb dX8_isLand_210 (by decide) ?_
                                exact wr_z (v := 0) hx hb hr hlocks hS (v29_0, g1_c76, v29_1, g3_c76, g4_c76) (by exact ⟨Or.inr (⟨rfl, show (tpA (tbr tbf le.toInt) le.toInt fu.toInt pp.toInt).1.1 = 1 ∧ (tpA (tbr tbf le.toInt) le.toInt fu.toInt pp.toInt).1.2.1 = v29_0.toInt ∧ (tpA (tbr tbf le.toInt) le.toInt fu.toInt pp.toInt).1.2.2.1 = v29_1.toInt from tfa_1 (by rw [← q0_c76]; exact tpq_x (by omega) (by omega) (by omega) (by omega) (by omega) (by omega) (by omega) (by omega) (by omega))⟩), show 0 ≤ (g1_c76 : Int32).toInt ∧ (g1_c76 : Int32).toInt ≤ 120 from by omega, show 0 ≤ (v29_1 : Int32).toInt ∧ (v29_1 : Int32).toInt ≤ 120 from by omega, ha_g4_c76⟩) (hP.sub [2, 0, 1] rfl) (hD.sub [2, 0, 1] (by decide) rfl) dX8_isLand_211 rfl
                            · have f_28 : ¬ r_8.toInt ≤ 0 := zi_nle c_28
                              refine lv_aload_n hx hb dX8_isLand_171 rfl (lv_at hl 3 rfl) ?_
                              refine va_get (D := D) (ci := 7) (v := .ref sl) (C := RX8) (T := TX8) (N := 16) hx hb hts (fun _ h => List.mem_cons_of_mem _ (List.mem_append_right _ h)) hown hK hP 1 rfl rfl 0 (by decide) (hts (.fieldLink RX8 7 "WinterWalkModel" "slot" "[I") (List.mem_of_getElem? (i := 2) rfl)) (fun _ h9 => h9) rfl dX8_isLand_172 ?_
                              refine lv_sipush (v := 1597) hx hb dX8_isLand_175 (by decide) ?_
                              refine va_iald hx hb hK hP 0 0 rfl rfl (zi_in (by decide) (by decide)) dX8_isLand_178 ?_
                              refine lv_topi (fun x_30 ex_30 => ?_)
                              have f_30 : 0 ≤ x_30.toInt ∧ x_30.toInt ≤ 8 := by rw [ex_30]; exact si_v ha_g4_c76 (s := 28) (by decide) (by omega)
                              have u_30 : x_30.toInt = (ur g4_c76).1 := by rw [ex_30]; exact ux_v
                              refine lv_if_le (tgt := 194) hx hb dX8_isLand_179 (by decide) (fun c_31 => ?_) (fun c_31 => ?_)
                              · have f_31 : (ur g4_c76).1 ≤ 0 := by
                                  have h8 := zi_le c_31
                                  try rw [u_30] at h8
                                  exact h8
                                refine lv_aload_n hx hb dX8_isLand_194 rfl (lv_at hl 3 rfl) ?_
                                refine lv_iconst (v := 1) hx hb dX8_isLand_195 (by decide) ?_
                                refine lv_aload_n hx hb dX8_isLand_196 rfl (lv_at hl 3 rfl) ?_
                                refine va_get (D := D) (ci := 7) (v := .int g1_c76) (C := RX8) (T := TX8) (N := 16) hx hb hts (fun _ h => List.mem_cons_of_mem _ (List.mem_append_right _ h)) hown hK hP 1 rfl rfl 10 (by decide) (hts (.fieldLink RX8 62 "WinterWalkModel" "at" "I") (List.mem_of_getElem? (i := 1) rfl)) (fun _ h9 => h9) rfl dX8_isLand_197 ?_
                                have k_32 := (p_X8_fails l D cI cB cQ H.size h sl zs ln ir tk tb tr fz na su le g0_c76 g1_c76 g2_c76 tc g3_c76 1 g1_c76 (by omega) (by omega))
                                refine wc_i (WC := [(h, .inr (7, [.ref sl, .int na, .ref zs, .ref ln, .ref ir, .ref tk, .int su, .int le, .ref tb, .int g0_c76, .int g1_c76, .int g2_c76, .ref tr, .int tc, .ref fz, .int g3_c76]))]) (WR := [(sl, .inl (cI, 1653, .inl g4_c76)), (tb, .inl (cB, 120, .inl tbf))]) (va_runV (As := [.int 1, .int g1_c76]) (rest := []) ⟨hx, hb, hml, hown, hts⟩ k_32 (cwV 2 hts gX8_isLand_X8_fails rfl rfl rfl (by decide +kernel) ⟨Nat.le_of_ble_eq_true rfl, Nat.le_of_ble_eq_true rfl⟩) (wp_V hP hK hD hN [1] (by decide) rfl (ci := 7) rfl rfl) rfl rfl hl.1 rfl (lv_room (Nat.le_of_ble_eq_true rfl)) dX8_isLand_200 ⟨Nat.le_of_ble_eq_true rfl, Nat.le_of_ble_eq_true rfl⟩) hP hD hS hA [1] [0, 2] rfl rfl (by decide) (by decide) (fun r_32 => pe2 (fun v32_0 v32_1 H locs hw_32 hP hD hS => ?_))
                                clear k_32
                                have hP : va_P D kl [(sl, .inl (cI, 1653, .inl g4_c76)), (tb, .inl (cB, 120, .inl tbf)), (h, .inr (7, [.ref sl, .int na, .ref zs, .ref ln, .ref ir, .ref tk, .int su, .int le, .ref tb, .int v32_0, .int g1_c76, .int v32_1, .ref tr, .int tc, .ref fz, .int g3_c76]))] H := hP
                                have hD : va_D A [(sl, .inl (cI, 1653, .inl g4_c76)), (tb, .inl (cB, 120, .inl tbf)), (h, .inr (7, [.ref sl, .int na, .ref zs, .ref ln, .ref ir, .ref tk, .int su, .int le, .ref tb, .int v32_0, .int g1_c76, .int v32_1, .ref tr, .int tc, .ref fz, .int g3_c76]))] := hD
                                obtain ⟨c32_0, c32_1, c32_2⟩ := hw_32
                                have c32_1 : v32_0.toInt = (1 : Int) ∧ v32_1.toInt = g1_c76.toInt := c32_1
                                have c32_2 : 0 ≤ v32_1.toInt ∧ v32_1.toInt ≤ 120 := c32_2
                                have e_32 := c32_0
                                · subst e_32
                                  refine lv_istore (lv' := [(4, .int 0), (3, .int r_8), (2, .int r_7), (1, .int t1_c76), (0, .ref h)]) hx hb dX8_isLand_203 hl (by decide) rfl (fun ls hl => ?_)
                                  refine lv_iload hx hb dX8_isLand_205 (lv_at hl 0 rfl) ?_
                                  refine lv_if_ne (tgt := 212) hx hb dX8_isLand_207 (by decide) (fun c9 => absurd (by decide) c9) (fun _ => ?_)
                                  refine lv_iconst (v := 0) hx hb dX8_isLand_210 (by decide) ?_
                                  exact wr_z (v := 0) hx hb hr hlocks hS (v32_0, g1_c76, v32_1, g3_c76, g4_c76) (by exact ⟨Or.inr (⟨rfl, show (tpA (tbr tbf le.toInt) le.toInt fu.toInt pp.toInt).1.1 = 1 ∧ (tpA (tbr tbf le.toInt) le.toInt fu.toInt pp.toInt).1.2.1 = v32_0.toInt ∧ (tpA (tbr tbf le.toInt) le.toInt fu.toInt pp.toInt).1.2.2.1 = v32_1.toInt from tfa_1 (by rw [← q0_c76]; exact tpq_x (by omega) (by omega) (by omega) (by omega) (by omega) (by omega) (by omega) (by omega) (by omega))⟩), show 0 ≤ (g1_c76 : Int32).toInt ∧ (g1_c76 : Int32).toInt ≤ 120 from by omega, show 0 ≤ (v32_1 : Int32).toInt ∧ (v32_1 : Int32).toInt ≤ 120 from by omega, ha_g4_c76⟩) (hP.sub [2, 0, 1] rfl) (hD.sub [2, 0, 1] (by decide) rfl) dX8_isLand_211 rfl
                              · have f_31 : ¬ (ur g4_c76).1 ≤ 0 := by
                                  have h8 := zi_nle c_31
                                  try rw [u_30] at h8
                                  exact h8
                                refine lv_iconst (v := 2) hx hb dX8_isLand_182 (by decide) ?_
                                refine lv_istore_n (lv' := [(1, .int 2), (3, .int r_8), (2, .int r_7), (0, .ref h)]) hx hb dX8_isLand_183 rfl hl (by decide) rfl (fun ls hl => ?_)
                                refine lv_aload_n hx hb dX8_isLand_184 rfl (lv_at hl 3 rfl) ?_
                                refine lv_iload_n hx hb dX8_isLand_185 rfl (lv_at hl 2 rfl) ?_
                                have k_33 := (p_X8_isWalker l D cI cB cQ H.size h sl zs ln ir tk tb tr fz na su le g0_c76 g1_c76 g2_c76 tc g3_c76 r_7 g4_c76 tbf v0 ha_g4_c76 (by omega) (by omega) (by omega) (by omega) (by omega) (by omega) (by omega))
                                refine wc_i (WC := [(h, .inr (7, [.ref sl, .int na, .ref zs, .ref ln, .ref ir, .ref tk, .int su, .int le, .ref tb, .int g0_c76, .int g1_c76, .int g2_c76, .ref tr, .int tc, .ref fz, .int g3_c76])), (sl, .inl (cI, 1653, .inl g4_c76)), (tb, .inl (cB, 120, .inl tbf))]) (WR := []) (va_runV (As := [.int r_7]) (rest := []) ⟨hx, hb, hml, hown, hts⟩ k_33 (cwV 1 hts gX8_isLand_X8_isWalker rfl rfl rfl (by decide +kernel) ⟨Nat.le_of_ble_eq_true rfl, Nat.le_of_ble_eq_true rfl⟩) (wp_V hP hK hD hN [1, 0, 2] (by decide) rfl (ci := 7) rfl rfl) rfl rfl hl.1 rfl (lv_room (Nat.le_of_ble_eq_true rfl)) dX8_isLand_186 ⟨Nat.le_of_ble_eq_true rfl, Nat.le_of_ble_eq_true rfl⟩) hP hD hS hA [1, 0, 2] [] rfl rfl (by decide) (by decide) (fun r_33 => pe5 (fun v33_0 v33_1 v33_2 v33_3 v33_4 H locs hw_33 hP hD hS => ?_))
                                clear k_33
                                have hP : va_P D kl [(h, .inr (7, [.ref sl, .int na, .ref zs, .ref ln, .ref ir, .ref tk, .int su, .int le, .ref tb, .int v33_0, .int v33_1, .int v33_2, .ref tr, .int tc, .ref fz, .int v33_3])), (sl, .inl (cI, 1653, .inl v33_4)), (tb, .inl (cB, 120, .inl tbf))] H := hP
                                have hD : va_D A [(h, .inr (7, [.ref sl, .int na, .ref zs, .ref ln, .ref ir, .ref tk, .int su, .int le, .ref tb, .int v33_0, .int v33_1, .int v33_2, .ref tr, .int tc, .ref fz, .int v33_3])), (sl, .inl (cI, 1653, .inl v33_4)), (tb, .inl (cB, 120, .inl tbf))] := hD
                                obtain ⟨c33_0, c33_1, c33_2, c33_3, c33_4⟩ := hw_33
                                have c33_1 : (g1_c76.toInt ≤ v33_1.toInt) := c33_1
                                have c33_2 : 0 ≤ v33_1.toInt ∧ v33_1.toInt ≤ 120 := c33_2
                                have c33_3 : 0 ≤ v33_2.toInt ∧ v33_2.toInt ≤ 120 := c33_3
                                have c33_4 : SI v33_4 v0 := c33_4
                                rcases c33_0 with ⟨e_33, f_33⟩ | ⟨e_33, f_33⟩
                                · subst e_33
                                  have f_33 : ((((0, v33_0.toInt, v33_2.toInt, v33_1.toInt) : TPS), ur v33_4) : TPT) = tpW (tbr tbf le.toInt) ((0, g0_c76.toInt, g2_c76.toInt, g1_c76.toInt), ur g4_c76) ∧ g1_c76.toInt < v33_1.toInt ∧ (ur v33_4).1 = (ur g4_c76).1 ∧ (ur v33_4).2.1 = (ur g4_c76).2.1 := f_33
                                  refine lv_istore (lv' := [(4, .int 1), (1, .int 2), (3, .int r_8), (2, .int r_7), (0, .ref h)]) hx hb dX8_isLand_189 hl (by decide) rfl (fun ls hl => ?_)
                                  refine lv_goto (tgt := 205) hx hb dX8_isLand_191 (by decide) ?_
                                  refine lv_iload hx hb dX8_isLand_205 (lv_at hl 0 rfl) ?_
                                  refine lv_if_ne (tgt := 212) hx hb dX8_isLand_207 (by decide) (fun _ => ?_) (fun c9 => absurd c9 (by decide))
                                  refine lv_goto (tgt := 76) hx hb dX8_isLand_212 (by decide) ?_
                                  exact ih76 2 v33_0 v33_1 v33_2 v33_3 v33_4 _ _ _ (show 0 ≤ 2 ∧ 2 ≤ 2 from by omega) (show 0 ≤ v33_1.toInt ∧ v33_1.toInt ≤ 120 from by omega) (show 0 ≤ v33_2.toInt ∧ v33_2.toInt ≤ 120 from by omega) c33_4 (show 2 = 0 ∨ 1 ≤ (ur v33_4).1 from by omega) (show 0 ≤ (ur v33_4).1 from by omega) (show 0 ≤ (ur v33_4).2.1 ∧ (ur v33_4).2.1 ≤ 12 from by omega) (tpq_back q0_c76 (tpq_W (fun p hp => tbr_hi hp) (by omega) (by omega) (by omega) (by omega) (by omega)) f_33.1 (by first | omega | decide)) (by omega) (hP.sub [1, 0, 2] rfl) (hD.sub [1, 0, 2] (by decide) rfl) hS (lv_sub hl [1, 4] rfl)
                                · subst e_33
                                  have f_33 : tfa (tpW (tbr tbf le.toInt) ((0, g0_c76.toInt, g2_c76.toInt, g1_c76.toInt), ur g4_c76)).1 v33_0.toInt v33_2.toInt := f_33
                                  refine lv_istore (lv' := [(4, .int 0), (1, .int 2), (3, .int r_8), (2, .int r_7), (0, .ref h)]) hx hb dX8_isLand_189 hl (by decide) rfl (fun ls hl => ?_)
                                  refine lv_goto (tgt := 205) hx hb dX8_isLand_191 (by decide) ?_
                                  refine lv_iload hx hb dX8_isLand_205 (lv_at hl 0 rfl) ?_
                                  refine lv_if_ne (tgt := 212) hx hb dX8_isLand_207 (by decide) (fun c9 => absurd (by decide) c9) (fun _ => ?_)
                                  refine lv_iconst (v := 0) hx hb dX8_isLand_210 (by decide) ?_
                                  exact wr_z (v := 0) hx hb hr hlocks hS (v33_0, v33_1, v33_2, v33_3, v33_4) (by exact ⟨Or.inr (⟨rfl, show (tpA (tbr tbf le.toInt) le.toInt fu.toInt pp.toInt).1.1 = 1 ∧ (tpA (tbr tbf le.toInt) le.toInt fu.toInt pp.toInt).1.2.1 = v33_0.toInt ∧ (tpA (tbr tbf le.toInt) le.toInt fu.toInt pp.toInt).1.2.2.1 = v33_2.toInt from tfa_1 (tpq_fb q0_c76 (tpq_W (fun p hp => tbr_hi hp) (by omega) (by omega) (by omega) (by omega) (by omega)) f_33)⟩), show 0 ≤ (v33_1 : Int32).toInt ∧ (v33_1 : Int32).toInt ≤ 120 from by omega, show 0 ≤ (v33_2 : Int32).toInt ∧ (v33_2 : Int32).toInt ≤ 120 from by omega, c33_4⟩) (hP.sub [0, 1, 2] rfl) (hD.sub [0, 1, 2] (by decide) rfl) dX8_isLand_211 rfl
                          · have f_27 : ¬ 2 ≤ t1_c76.toInt := zi_nle c_27
                            refine lv_aload_n hx hb dX8_isLand_145 rfl (lv_at hl 3 rfl) ?_
                            refine va_get (D := D) (ci := 7) (v := .ref sl) (C := RX8) (T := TX8) (N := 16) hx hb hts (fun _ h => List.mem_cons_of_mem _ (List.mem_append_right _ h)) hown hK hP 1 rfl rfl 0 (by decide) (hts (.fieldLink RX8 7 "WinterWalkModel" "slot" "[I") (List.mem_of_getElem? (i := 2) rfl)) (fun _ h9 => h9) rfl dX8_isLand_146 ?_
                            refine lv_sipush (v := 1597) hx hb dX8_isLand_149 (by decide) ?_
                            refine va_iald hx hb hK hP 0 0 rfl rfl (zi_in (by decide) (by decide)) dX8_isLand_152 ?_
                            refine lv_topi (fun x_34 ex_34 => ?_)
                            have f_34 : 0 ≤ x_34.toInt ∧ x_34.toInt ≤ 8 := by rw [ex_34]; exact si_v ha_g4_c76 (s := 28) (by decide) (by omega)
                            have u_34 : x_34.toInt = (ur g4_c76).1 := by rw [ex_34]; exact ux_v
                            refine lv_if_le (tgt := 167) hx hb dX8_isLand_153 (by decide) (fun c_35 => ?_) (fun c_35 => ?_)
                            · have f_35 : (ur g4_c76).1 ≤ 0 := by
                                have h8 := zi_le c_35
                                try rw [u_34] at h8
                                exact h8
                              refine lv_iload_n hx hb dX8_isLand_167 rfl (lv_at hl 0 rfl) ?_
                              refine lv_if_le (tgt := 194) hx hb dX8_isLand_168 (by decide) (fun c_36 => ?_) (fun c_36 => ?_)
                              · have f_36 : r_8.toInt ≤ 0 := zi_le c_36
                                refine lv_aload_n hx hb dX8_isLand_194 rfl (lv_at hl 3 rfl) ?_
                                refine lv_iconst (v := 1) hx hb dX8_isLand_195 (by decide) ?_
                                refine lv_aload_n hx hb dX8_isLand_196 rfl (lv_at hl 3 rfl) ?_
                                refine va_get (D := D) (ci := 7) (v := .int g1_c76) (C := RX8) (T := TX8) (N := 16) hx hb hts (fun _ h => List.mem_cons_of_mem _ (List.mem_append_right _ h)) hown hK hP 1 rfl rfl 10 (by decide) (hts (.fieldLink RX8 62 "WinterWalkModel" "at" "I") (List.mem_of_getElem? (i := 1) rfl)) (fun _ h9 => h9) rfl dX8_isLand_197 ?_
                                have k_37 := (p_X8_fails l D cI cB cQ H.size h sl zs ln ir tk tb tr fz na su le g0_c76 g1_c76 g2_c76 tc g3_c76 1 g1_c76 (by omega) (by omega))
                                refine wc_i (WC := [(h, .inr (7, [.ref sl, .int na, .ref zs, .ref ln, .ref ir, .ref tk, .int su, .int le, .ref tb, .int g0_c76, .int g1_c76, .int g2_c76, .ref tr, .int tc, .ref fz, .int g3_c76]))]) (WR := [(sl, .inl (cI, 1653, .inl g4_c76)), (tb, .inl (cB, 120, .inl tbf))]) (va_runV (As := [.int 1, .int g1_c76]) (rest := []) ⟨hx, hb, hml, hown, hts⟩ k_37 (cwV 2 hts gX8_isLand_X8_fails rfl rfl rfl (by decide +kernel) ⟨Nat.le_of_ble_eq_true rfl, Nat.le_of_ble_eq_true rfl⟩) (wp_V hP hK hD hN [1] (by decide) rfl (ci := 7) rfl rfl) rfl rfl hl.1 rfl (lv_room (Nat.le_of_ble_eq_true rfl)) dX8_isLand_200 ⟨Nat.le_of_ble_eq_true rfl, Nat.le_of_ble_eq_true rfl⟩) hP hD hS hA [1] [0, 2] rfl rfl (by decide) (by decide) (fun r_37 => pe2 (fun v37_0 v37_1 H locs hw_37 hP hD hS => ?_))
                                clear k_37
                                have hP : va_P D kl [(sl, .inl (cI, 1653, .inl g4_c76)), (tb, .inl (cB, 120, .inl tbf)), (h, .inr (7, [.ref sl, .int na, .ref zs, .ref ln, .ref ir, .ref tk, .int su, .int le, .ref tb, .int v37_0, .int g1_c76, .int v37_1, .ref tr, .int tc, .ref fz, .int g3_c76]))] H := hP
                                have hD : va_D A [(sl, .inl (cI, 1653, .inl g4_c76)), (tb, .inl (cB, 120, .inl tbf)), (h, .inr (7, [.ref sl, .int na, .ref zs, .ref ln, .ref ir, .ref tk, .int su, .int le, .ref tb, .int v37_0, .int g1_c76, .int v37_1, .ref tr, .int tc, .ref fz, .int g3_c76]))] := hD
                                obtain ⟨c37_0, c37_1, c37_2⟩ := hw_37
                                have c37_1 : v37_0.toInt = (1 : Int) ∧ v37_1.toInt = g1_c76.toInt := c37_1
                                have c37_2 : 0 ≤ v37_1.toInt ∧ v37_1.toInt ≤ 120 := c37_2
                                have e_37 := c37_0
                                · subst e_37
                                  refine lv_istore (lv' := [(4, .int 0), (3, .int r_8), (2, .int r_7), (1, .int t1_c76), (0, .ref h)]) hx hb dX8_isLand_203 hl (by decide) rfl (fun ls hl => ?_)
                                  refine lv_iload hx hb dX8_isLand_205 (lv_at hl 0 rfl) ?_
                                  refine lv_if_ne (tgt := 212) hx hb dX8_isLand_207 (by decide) (fun c9 => absurd (by decide) c9) (fun _ => ?_)
                                  refine lv_iconst (v := 0) hx hb dX8_isLand_210 (by decide) ?_
                                  exact wr_z (v := 0) hx hb hr hlocks hS (v37_0, g1_c76, v37_1, g3_c76, g4_c76) (by exact ⟨Or.inr (⟨rfl, show (tpA (tbr tbf le.toInt) le.toInt fu.toInt pp.toInt).1.1 = 1 ∧ (tpA (tbr tbf le.toInt) le.toInt fu.toInt pp.toInt).1.2.1 = v37_0.toInt ∧ (tpA (tbr tbf le.toInt) le.toInt fu.toInt pp.toInt).1.2.2.1 = v37_1.toInt from tfa_1 (by rw [← q0_c76]; exact tpq_x (by omega) (by omega) (by omega) (by omega) (by omega) (by omega) (by omega) (by omega) (by omega))⟩), show 0 ≤ (g1_c76 : Int32).toInt ∧ (g1_c76 : Int32).toInt ≤ 120 from by omega, show 0 ≤ (v37_1 : Int32).toInt ∧ (v37_1 : Int32).toInt ≤ 120 from by omega, ha_g4_c76⟩) (hP.sub [2, 0, 1] rfl) (hD.sub [2, 0, 1] (by decide) rfl) dX8_isLand_211 rfl
                              · have f_36 : ¬ r_8.toInt ≤ 0 := zi_nle c_36
                                refine lv_aload_n hx hb dX8_isLand_171 rfl (lv_at hl 3 rfl) ?_
                                refine va_get (D := D) (ci := 7) (v := .ref sl) (C := RX8) (T := TX8) (N := 16) hx hb hts (fun _ h => List.mem_cons_of_mem _ (List.mem_append_right _ h)) hown hK hP 1 rfl rfl 0 (by decide) (hts (.fieldLink RX8 7 "WinterWalkModel" "slot" "[I") (List.mem_of_getElem? (i := 2) rfl)) (fun _ h9 => h9) rfl dX8_isLand_172 ?_
                                refine lv_sipush (v := 1597) hx hb dX8_isLand_175 (by decide) ?_
                                refine va_iald hx hb hK hP 0 0 rfl rfl (zi_in (by decide) (by decide)) dX8_isLand_178 ?_
                                refine lv_topi (fun x_38 ex_38 => ?_)
                                have f_38 : 0 ≤ x_38.toInt ∧ x_38.toInt ≤ 8 := by rw [ex_38]; exact si_v ha_g4_c76 (s := 28) (by decide) (by omega)
                                have u_38 : x_38.toInt = (ur g4_c76).1 := by rw [ex_38]; exact ux_v
                                refine lv_if_le (tgt := 194) hx hb dX8_isLand_179 (by decide) (fun c_39 => ?_) (fun c_39 => ?_)
                                · have f_39 : (ur g4_c76).1 ≤ 0 := by
                                    have h8 := zi_le c_39
                                    try rw [u_38] at h8
                                    exact h8
                                  refine lv_aload_n hx hb dX8_isLand_194 rfl (lv_at hl 3 rfl) ?_
                                  refine lv_iconst (v := 1) hx hb dX8_isLand_195 (by decide) ?_
                                  refine lv_aload_n hx hb dX8_isLand_196 rfl (lv_at hl 3 rfl) ?_
                                  refine va_get (D := D) (ci := 7) (v := .int g1_c76) (C := RX8) (T := TX8) (N := 16) hx hb hts (fun _ h => List.mem_cons_of_mem _ (List.mem_append_right _ h)) hown hK hP 1 rfl rfl 10 (by decide) (hts (.fieldLink RX8 62 "WinterWalkModel" "at" "I") (List.mem_of_getElem? (i := 1) rfl)) (fun _ h9 => h9) rfl dX8_isLand_197 ?_
                                  have k_40 := (p_X8_fails l D cI cB cQ H.size h sl zs ln ir tk tb tr fz na su le g0_c76 g1_c76 g2_c76 tc g3_c76 1 g1_c76 (by omega) (by omega))
                                  refine wc_i (WC := [(h, .inr (7, [.ref sl, .int na, .ref zs, .ref ln, .ref ir, .ref tk, .int su, .int le, .ref tb, .int g0_c76, .int g1_c76, .int g2_c76, .ref tr, .int tc, .ref fz, .int g3_c76]))]) (WR := [(sl, .inl (cI, 1653, .inl g4_c76)), (tb, .inl (cB, 120, .inl tbf))]) (va_runV (As := [.int 1, .int g1_c76]) (rest := []) ⟨hx, hb, hml, hown, hts⟩ k_40 (cwV 2 hts gX8_isLand_X8_fails rfl rfl rfl (by decide +kernel) ⟨Nat.le_of_ble_eq_true rfl, Nat.le_of_ble_eq_true rfl⟩) (wp_V hP hK hD hN [1] (by decide) rfl (ci := 7) rfl rfl) rfl rfl hl.1 rfl (lv_room (Nat.le_of_ble_eq_true rfl)) dX8_isLand_200 ⟨Nat.le_of_ble_eq_true rfl, Nat.le_of_ble_eq_true rfl⟩) hP hD hS hA [1] [0, 2] rfl rfl (by decide) (by decide) (fun r_40 => pe2 (fun v40_0 v40_1 H locs hw_40 hP hD hS => ?_))
                                  clear k_40
                                  have hP : va_P D kl [(sl, .inl (cI, 1653, .inl g4_c76)), (tb, .inl (cB, 120, .inl tbf)), (h, .inr (7, [.ref sl, .int na, .ref zs, .ref ln, .ref ir, .ref tk, .int su, .int le, .ref tb, .int v40_0, .int g1_c76, .int v40_1, .ref tr, .int tc, .ref fz, .int g3_c76]))] H := hP
                                  have hD : va_D A [(sl, .inl (cI, 1653, .inl g4_c76)), (tb, .inl (cB, 120, .inl tbf)), (h, .inr (7, [.ref sl, .int na, .ref zs, .ref ln, .ref ir, .ref tk, .int su, .int le, .ref tb, .int v40_0, .int g1_c76, .int v40_1, .ref tr, .int tc, .ref fz, .int g3_c76]))] := hD
                                  obtain ⟨c40_0, c40_1, c40_2⟩ := hw_40
                                  have c40_1 : v40_0.toInt = (1 : Int) ∧ v40_1.toInt = g1_c76.toInt := c40_1
                                  have c40_2 : 0 ≤ v40_1.toInt ∧ v40_1.toInt ≤ 120 := c40_2
                                  have e_40 := c40_0
                                  · subst e_40
                                    refine lv_istore (lv' := [(4, .int 0), (3, .int r_8), (2, .int r_7), (1, .int t1_c76), (0, .ref h)]) hx hb dX8_isLand_203 hl (by decide) rfl (fun ls hl => ?_)
                                    refine lv_iload hx hb dX8_isLand_205 (lv_at hl 0 rfl) ?_
                                    refine lv_if_ne (tgt := 212) hx hb dX8_isLand_207 (by decide) (fun c9 => absurd (by decide) c9) (fun _ => ?_)
                                    refine lv_iconst (v := 0) hx hb dX8_isLand_210 (by decide) ?_
                                    exact wr_z (v := 0) hx hb hr hlocks hS (v40_0, g1_c76, v40_1, g3_c76, g4_c76) (by exact ⟨Or.inr (⟨rfl, show (tpA (tbr tbf le.toInt) le.toInt fu.toInt pp.toInt).1.1 = 1 ∧ (tpA (tbr tbf le.toInt) le.toInt fu.toInt pp.toInt).1.2.1 = v40_0.toInt ∧ (tpA (tbr tbf le.toInt) le.toInt fu.toInt pp.toInt).1.2.2.1 = v40_1.toInt from tfa_1 (by rw [← q0_c76]; exact tpq_x (by omega) (by omega) (by omega) (by omega) (by omega) (by omega) (by omega) (by omega) (by omega))⟩), show 0 ≤ (g1_c76 : Int32).toInt ∧ (g1_c76 : Int32).toInt ≤ 120 from by omega, show 0 ≤ (v40_1 : Int32).toInt ∧ (v40_1 : Int32).toInt ≤ 120 from by omega, ha_g4_c76⟩) (hP.sub [2, 0, 1] rfl) (hD.sub [2, 0, 1] (by decide) rfl) dX8_isLand_211 rfl
                                · have f_39 : ¬ (ur g4_c76).1 ≤ 0 := by
                                    have h8 := zi_nle c_39
                                    try rw [u_38] at h8
                                    exact h8
                                  refine lv_iconst (v := 2) hx hb dX8_isLand_182 (by decide) ?_
                                  refine lv_istore_n (lv' := [(1, .int 2), (3, .int r_8), (2, .int r_7), (0, .ref h)]) hx hb dX8_isLand_183 rfl hl (by decide) rfl (fun ls hl => ?_)
                                  refine lv_aload_n hx hb dX8_isLand_184 rfl (lv_at hl 3 rfl) ?_
                                  refine lv_iload_n hx hb dX8_isLand_185 rfl (lv_at hl 2 rfl) ?_
                                  have k_41 := (p_X8_isWalker l D cI cB cQ H.size h sl zs ln ir tk tb tr fz na su le g0_c76 g1_c76 g2_c76 tc g3_c76 r_7 g4_c76 tbf v0 ha_g4_c76 (by omega) (by omega) (by omega) (by omega) (by omega) (by omega) (by omega))
                                  refine wc_i (WC := [(h, .inr (7, [.ref sl, .int na, .ref zs, .ref ln, .ref ir, .ref tk, .int su, .int le, .ref tb, .int g0_c76, .int g1_c76, .int g2_c76, .ref tr, .int tc, .ref fz, .int g3_c76])), (sl, .inl (cI, 1653, .inl g4_c76)), (tb, .inl (cB, 120, .inl tbf))]) (WR := []) (va_runV (As := [.int r_7]) (rest := []) ⟨hx, hb, hml, hown, hts⟩ k_41 (cwV 1 hts gX8_isLand_X8_isWalker rfl rfl rfl (by decide +kernel) ⟨Nat.le_of_ble_eq_true rfl, Nat.le_of_ble_eq_true rfl⟩) (wp_V hP hK hD hN [1, 0, 2] (by decide) rfl (ci := 7) rfl rfl) rfl rfl hl.1 rfl (lv_room (Nat.le_of_ble_eq_true rfl)) dX8_isLand_186 ⟨Nat.le_of_ble_eq_true rfl, Nat.le_of_ble_eq_true rfl⟩) hP hD hS hA [1, 0, 2] [] rfl rfl (by decide) (by decide) (fun r_41 => pe5 (fun v41_0 v41_1 v41_2 v41_3 v41_4 H locs hw_41 hP hD hS => ?_))
                                  clear k_41
                                  have hP : va_P D kl [(h, .inr (7, [.ref sl, .int na, .ref zs, .ref ln, .ref ir, .ref tk, .int su, .int le, .ref tb, .int v41_0, .int v41_1, .int v41_2, .ref tr, .int tc, .ref fz, .int v41_3])), (sl, .inl (cI, 1653, .inl v41_4)), (tb, .inl (cB, 120, .inl tbf))] H := hP
                                  have hD : va_D A [(h, .inr (7, [.ref sl, .int na, .ref zs, .ref ln, .ref ir, .ref tk, .int su, .int le, .ref tb, .int v41_0, .int v41_1, .int v41_2, .ref tr, .int tc, .ref fz, .int v41_3])), (sl, .inl (cI, 1653, .inl v41_4)), (tb, .inl (cB, 120, .inl tbf))] := hD
                                  obtain ⟨c41_0, c41_1, c41_2, c41_3, c41_4⟩ := hw_41
                                  have c41_1 : (g1_c76.toInt ≤ v41_1.toInt) := c41_1
                                  have c41_2 : 0 ≤ v41_1.toInt ∧ v41_1.toInt ≤ 120 := c41_2
                                  have c41_3 : 0 ≤ v41_2.toInt ∧ v41_2.toInt ≤ 120 := c41_3
                                  have c41_4 : SI v41_4 v0 := c41_4
                                  rcases c41_0 with ⟨e_41, f_41⟩ | ⟨e_41, f_41⟩
                                  · subst e_41
                                    have f_41 : ((((0, v41_0.toInt, v41_2.toInt, v41_1.toInt) : TPS), ur v41_4) : TPT) = tpW (tbr tbf le.toInt) ((0, g0_c76.toInt, g2_c76.toInt, g1_c76.toInt), ur g4_c76) ∧ g1_c76.toInt < v41_1.toInt ∧ (ur v41_4).1 = (ur g4_c76).1 ∧ (ur v41_4).2.1 = (ur g4_c76).2.1 := f_41
                                    refine lv_istore (lv' := [(4, .int 1), (1, .int 2), (3, .int r_8), (2, .int r_7), (0, .ref h)]) hx hb dX8_isLand_189 hl (by decide) rfl (fun ls hl => ?_)
                                    refine lv_goto (tgt := 205) hx hb dX8_isLand_191 (by decide) ?_
                                    refine lv_iload hx hb dX8_isLand_205 (lv_at hl 0 rfl) ?_
                                    refine lv_if_ne (tgt := 212) hx hb dX8_isLand_207 (by decide) (fun _ => ?_) (fun c9 => absurd c9 (by decide))
                                    refine lv_goto (tgt := 76) hx hb dX8_isLand_212 (by decide) ?_
                                    exact ih76 2 v41_0 v41_1 v41_2 v41_3 v41_4 _ _ _ (show 0 ≤ 2 ∧ 2 ≤ 2 from by omega) (show 0 ≤ v41_1.toInt ∧ v41_1.toInt ≤ 120 from by omega) (show 0 ≤ v41_2.toInt ∧ v41_2.toInt ≤ 120 from by omega) c41_4 (show 2 = 0 ∨ 1 ≤ (ur v41_4).1 from by omega) (show 0 ≤ (ur v41_4).1 from by omega) (show 0 ≤ (ur v41_4).2.1 ∧ (ur v41_4).2.1 ≤ 12 from by omega) (tpq_back q0_c76 (tpq_W (fun p hp => tbr_hi hp) (by omega) (by omega) (by omega) (by omega) (by omega)) f_41.1 (by first | omega | decide)) (by omega) (hP.sub [1, 0, 2] rfl) (hD.sub [1, 0, 2] (by decide) rfl) hS (lv_sub hl [1, 4] rfl)
                                  · subst e_41
                                    have f_41 : tfa (tpW (tbr tbf le.toInt) ((0, g0_c76.toInt, g2_c76.toInt, g1_c76.toInt), ur g4_c76)).1 v41_0.toInt v41_2.toInt := f_41
                                    refine lv_istore (lv' := [(4, .int 0), (1, .int 2), (3, .int r_8), (2, .int r_7), (0, .ref h)]) hx hb dX8_isLand_189 hl (by decide) rfl (fun ls hl => ?_)
                                    refine lv_goto (tgt := 205) hx hb dX8_isLand_191 (by decide) ?_
                                    refine lv_iload hx hb dX8_isLand_205 (lv_at hl 0 rfl) ?_
                                    refine lv_if_ne (tgt := 212) hx hb dX8_isLand_207 (by decide) (fun c9 => absurd (by decide) c9) (fun _ => ?_)
                                    refine lv_iconst (v := 0) hx hb dX8_isLand_210 (by decide) ?_
                                    exact wr_z (v := 0) hx hb hr hlocks hS (v41_0, v41_1, v41_2, v41_3, v41_4) (by exact ⟨Or.inr (⟨rfl, show (tpA (tbr tbf le.toInt) le.toInt fu.toInt pp.toInt).1.1 = 1 ∧ (tpA (tbr tbf le.toInt) le.toInt fu.toInt pp.toInt).1.2.1 = v41_0.toInt ∧ (tpA (tbr tbf le.toInt) le.toInt fu.toInt pp.toInt).1.2.2.1 = v41_2.toInt from tfa_1 (tpq_fb q0_c76 (tpq_W (fun p hp => tbr_hi hp) (by omega) (by omega) (by omega) (by omega) (by omega)) f_41)⟩), show 0 ≤ (v41_1 : Int32).toInt ∧ (v41_1 : Int32).toInt ≤ 120 from by omega, show 0 ≤ (v41_2 : Int32).toInt ∧ (v41_2 : Int32).toInt ≤ 120 from by omega, c41_4⟩) (hP.sub [0, 1, 2] rfl) (hD.sub [0, 1, 2] (by decide) rfl) dX8_isLand_211 rfl
                            · have f_35 : ¬ (ur g4_c76).1 ≤ 0 := by
                                have h8 := zi_nle c_35
                                try rw [u_34] at h8
                                exact h8
                              refine lv_iconst (v := 1) hx hb dX8_isLand_156 (by decide) ?_
                              refine lv_istore_n (lv' := [(1, .int 1), (3, .int r_8), (2, .int r_7), (0, .ref h)]) hx hb dX8_isLand_157 rfl hl (by decide) rfl (fun ls hl => ?_)
                              refine lv_aload_n hx hb dX8_isLand_158 rfl (lv_at hl 3 rfl) ?_
                              have k_42 := (p_X8_isRoad l D cI cB cQ H.size h sl zs ln ir tk tb tr fz na su le g0_c76 g1_c76 g2_c76 tc g3_c76 g4_c76 tbf v0 ha_g4_c76 (by omega) (by omega) (by omega) (by omega) (by omega) (by omega) (by omega))
                              refine wc_i (WC := [(h, .inr (7, [.ref sl, .int na, .ref zs, .ref ln, .ref ir, .ref tk, .int su, .int le, .ref tb, .int g0_c76, .int g1_c76, .int g2_c76, .ref tr, .int tc, .ref fz, .int g3_c76])), (sl, .inl (cI, 1653, .inl g4_c76)), (tb, .inl (cB, 120, .inl tbf))]) (WR := []) (va_runV (As := []) (rest := []) ⟨hx, hb, hml, hown, hts⟩ k_42 (cwV 0 hts gX8_isLand_X8_isRoad rfl rfl rfl (by decide +kernel) ⟨Nat.le_of_ble_eq_true rfl, Nat.le_of_ble_eq_true rfl⟩) (wp_V hP hK hD hN [1, 0, 2] (by decide) rfl (ci := 7) rfl rfl) rfl rfl hl.1 rfl (lv_room (Nat.le_of_ble_eq_true rfl)) dX8_isLand_159 ⟨Nat.le_of_ble_eq_true rfl, Nat.le_of_ble_eq_true rfl⟩) hP hD hS hA [1, 0, 2] [] rfl rfl (by decide) (by decide) (fun r_42 => pe5 (fun v42_0 v42_1 v42_2 v42_3 v42_4 H locs hw_42 hP hD hS => ?_))
                              clear k_42
                              have hP : va_P D kl [(h, .inr (7, [.ref sl, .int na, .ref zs, .ref ln, .ref ir, .ref tk, .int su, .int le, .ref tb, .int v42_0, .int v42_1, .int v42_2, .ref tr, .int tc, .ref fz, .int v42_3])), (sl, .inl (cI, 1653, .inl v42_4)), (tb, .inl (cB, 120, .inl tbf))] H := hP
                              have hD : va_D A [(h, .inr (7, [.ref sl, .int na, .ref zs, .ref ln, .ref ir, .ref tk, .int su, .int le, .ref tb, .int v42_0, .int v42_1, .int v42_2, .ref tr, .int tc, .ref fz, .int v42_3])), (sl, .inl (cI, 1653, .inl v42_4)), (tb, .inl (cB, 120, .inl tbf))] := hD
                              obtain ⟨c42_0, c42_1, c42_2, c42_3, c42_4⟩ := hw_42
                              have c42_1 : (g1_c76.toInt ≤ v42_1.toInt) := c42_1
                              have c42_2 : 0 ≤ v42_1.toInt ∧ v42_1.toInt ≤ 120 := c42_2
                              have c42_3 : 0 ≤ v42_2.toInt ∧ v42_2.toInt ≤ 120 := c42_3
                              have c42_4 : SI v42_4 v0 := c42_4
                              rcases c42_0 with ⟨e_42, f_42⟩ | ⟨e_42, f_42⟩
                              · subst e_42
                                have f_42 : ((((0, v42_0.toInt, v42_2.toInt, v42_1.toInt) : TPS), ur v42_4) : TPT) = tpR (tbr tbf le.toInt) ((0, g0_c76.toInt, g2_c76.toInt, g1_c76.toInt), ur g4_c76) ∧ g1_c76.toInt < v42_1.toInt ∧ (ur v42_4).1 = (ur g4_c76).1 ∧ (ur v42_4).2.1 = (ur g4_c76).2.1 + 1 ∧ (ur g4_c76).2.1 ≤ 11 := f_42
                                refine lv_istore (lv' := [(4, .int 1), (1, .int 1), (3, .int r_8), (2, .int r_7), (0, .ref h)]) hx hb dX8_isLand_162 hl (by decide) rfl (fun ls hl => ?_)
                                refine lv_goto (tgt := 205) hx hb dX8_isLand_164 (by decide) ?_
                                refine lv_iload hx hb dX8_isLand_205 (lv_at hl 0 rfl) ?_
                                refine lv_if_ne (tgt := 212) hx hb dX8_isLand_207 (by decide) (fun _ => ?_) (fun c9 => absurd c9 (by decide))
                                refine lv_goto (tgt := 76) hx hb dX8_isLand_212 (by decide) ?_
                                exact ih76 1 v42_0 v42_1 v42_2 v42_3 v42_4 _ _ _ (show 0 ≤ 1 ∧ 1 ≤ 2 from by omega) (show 0 ≤ v42_1.toInt ∧ v42_1.toInt ≤ 120 from by omega) (show 0 ≤ v42_2.toInt ∧ v42_2.toInt ≤ 120 from by omega) c42_4 (show 1 = 0 ∨ 1 ≤ (ur v42_4).1 from by omega) (show 0 ≤ (ur v42_4).1 from by omega) (show 0 ≤ (ur v42_4).2.1 ∧ (ur v42_4).2.1 ≤ 12 from by omega) (tpq_back q0_c76 (tpq_R (fun p hp => tbr_hi hp) (by omega) (by omega) (by omega) (by omega) (by omega)) f_42.1 (by first | omega | decide)) (by omega) (hP.sub [1, 0, 2] rfl) (hD.sub [1, 0, 2] (by decide) rfl) hS (lv_sub hl [1, 4] rfl)
                              · subst e_42
                                have f_42 : tfa (tpR (tbr tbf le.toInt) ((0, g0_c76.toInt, g2_c76.toInt, g1_c76.toInt), ur g4_c76)).1 v42_0.toInt v42_2.toInt := f_42
                                refine lv_istore (lv' := [(4, .int 0), (1, .int 1), (3, .int r_8), (2, .int r_7), (0, .ref h)]) hx hb dX8_isLand_162 hl (by decide) rfl (fun ls hl => ?_)
                                refine lv_goto (tgt := 205) hx hb dX8_isLand_164 (by decide) ?_
                                refine lv_iload hx hb dX8_isLand_205 (lv_at hl 0 rfl) ?_
                                refine lv_if_ne (tgt := 212) hx hb dX8_isLand_207 (by decide) (fun c9 => absurd (by decide) c9) (fun _ => ?_)
                                refine lv_iconst (v := 0) hx hb dX8_isLand_210 (by decide) ?_
                                exact wr_z (v := 0) hx hb hr hlocks hS (v42_0, v42_1, v42_2, v42_3, v42_4) (by exact ⟨Or.inr (⟨rfl, show (tpA (tbr tbf le.toInt) le.toInt fu.toInt pp.toInt).1.1 = 1 ∧ (tpA (tbr tbf le.toInt) le.toInt fu.toInt pp.toInt).1.2.1 = v42_0.toInt ∧ (tpA (tbr tbf le.toInt) le.toInt fu.toInt pp.toInt).1.2.2.1 = v42_2.toInt from tfa_1 (tpq_fb q0_c76 (tpq_R (fun p hp => tbr_hi hp) (by omega) (by omega) (by omega) (by omega) (by omega)) f_42)⟩), show 0 ≤ (v42_1 : Int32).toInt ∧ (v42_1 : Int32).toInt ≤ 120 from by omega, show 0 ≤ (v42_2 : Int32).toInt ∧ (v42_2 : Int32).toInt ≤ 120 from by omega, c42_4⟩) (hP.sub [0, 1, 2] rfl) (hD.sub [0, 1, 2] (by decide) rfl) dX8_isLand_211 rfl
                      · have f_19 : r_7.toInt = 99 := zi_eq c_19
                        refine lv_iload_n hx hb dX8_isLand_120 rfl (lv_at hl 2 rfl) ?_
                        refine lv_if_ne (tgt := 134) hx hb dX8_isLand_121 (by decide) (fun c_43 => ?_) (fun c_43 => ?_)
                        · have f_43 : ¬ t1_c76.toInt = 0 := zi_ne c_43
                          refine lv_iload_n hx hb dX8_isLand_134 rfl (lv_at hl 1 rfl) ?_
                          refine lv_bipush (v := 114) hx hb dX8_isLand_135 (by decide) ?_
                          refine lv_icmp_ne (tgt := 167) hx hb dX8_isLand_137 (by decide) (fun c_44 => ?_) (fun c_44 => ?_)
                          · have f_44 : ¬ r_7.toInt = 114 := zi_ne c_44
                            refine lv_iload_n hx hb dX8_isLand_167 rfl (lv_at hl 0 rfl) ?_
                            refine lv_if_le (tgt := 194) hx hb dX8_isLand_168 (by decide) (fun c_45 => ?_) (fun c_45 => ?_)
                            · have f_45 : r_8.toInt ≤ 0 := zi_le c_45
                              refine lv_aload_n hx hb dX8_isLand_194 rfl (lv_at hl 3 rfl) ?_
                              refine lv_iconst (v := 1) hx hb dX8_isLand_195 (by decide) ?_
                              refine lv_aload_n hx hb dX8_isLand_196 rfl (lv_at hl 3 rfl) ?_
                              refine va_get (D := D) (ci := 7) (v := .int g1_c76) (C := RX8) (T := TX8) (N := 16) hx hb hts (fun _ h => List.mem_cons_of_mem _ (List.mem_append_right _ h)) hown hK hP 1 rfl rfl 10 (by decide) (hts (.fieldLink RX8 62 "WinterWalkModel" "at" "I") (List.mem_of_getElem? (i := 1) rfl)) (fun _ h9 => h9) rfl dX8_isLand_197 ?_
                              have k_46 := (p_X8_fails l D cI cB cQ H.size h sl zs ln ir tk tb tr fz na su le g0_c76 g1_c76 g2_c76 tc g3_c76 1 g1_c76 (by omega) (by omega))
                              refine wc_i (WC := [(h, .inr (7, [.ref sl, .int na, .ref zs, .ref ln, .ref ir, .ref tk, .int su, .int le, .ref tb, .int g0_c76, .int g1_c76, .int g2_c76, .ref tr, .int tc, .ref fz, .int g3_c76]))]) (WR := [(sl, .inl (cI, 1653, .inl g4_c76)), (tb, .inl (cB, 120, .inl tbf))]) (va_runV (As := [.int 1, .int g1_c76]) (rest := []) ⟨hx, hb, hml, hown, hts⟩ k_46 (cwV 2 hts gX8_isLand_X8_fails rfl rfl rfl (by decide +kernel) ⟨Nat.le_of_ble_eq_true rfl, Nat.le_of_ble_eq_true rfl⟩) (wp_V hP hK hD hN [1] (by decide) rfl (ci := 7) rfl rfl) rfl rfl hl.1 rfl (lv_room (Nat.le_of_ble_eq_true rfl)) dX8_isLand_200 ⟨Nat.le_of_ble_eq_true rfl, Nat.le_of_ble_eq_true rfl⟩) hP hD hS hA [1] [0, 2] rfl rfl (by decide) (by decide) (fun r_46 => pe2 (fun v46_0 v46_1 H locs hw_46 hP hD hS => ?_))
                              clear k_46
                              have hP : va_P D kl [(sl, .inl (cI, 1653, .inl g4_c76)), (tb, .inl (cB, 120, .inl tbf)), (h, .inr (7, [.ref sl, .int na, .ref zs, .ref ln, .ref ir, .ref tk, .int su, .int le, .ref tb, .int v46_0, .int g1_c76, .int v46_1, .ref tr, .int tc, .ref fz, .int g3_c76]))] H := hP
                              have hD : va_D A [(sl, .inl (cI, 1653, .inl g4_c76)), (tb, .inl (cB, 120, .inl tbf)), (h, .inr (7, [.ref sl, .int na, .ref zs, .ref ln, .ref ir, .ref tk, .int su, .int le, .ref tb, .int v46_0, .int g1_c76, .int v46_1, .ref tr, .int tc, .ref fz, .int g3_c76]))] := hD
                              obtain ⟨c46_0, c46_1, c46_2⟩ := hw_46
                              have c46_1 : v46_0.toInt = (1 : Int) ∧ v46_1.toInt = g1_c76.toInt := c46_1
                              have c46_2 : 0 ≤ v46_1.toInt ∧ v46_1.toInt ≤ 120 := c46_2
                              have e_46 := c46_0
                              · subst e_46
                                refine lv_istore (lv' := [(4, .int 0), (3, .int r_8), (2, .int r_7), (1, .int t1_c76), (0, .ref h)]) hx hb dX8_isLand_203 hl (by decide) rfl (fun ls hl => ?_)
                                refine lv_iload hx hb dX8_isLand_205 (lv_at hl 0 rfl) ?_
                                refine lv_if_ne (tgt := 212) hx hb dX8_isLand_207 (by decide) (fun c9 => absurd (by decide) c9) (fun _ => ?_)
                                refine lv_iconst (v := 0) hx hb dX8_isLand_210 (by decide) ?_
                                exact wr_z (v := 0) hx hb hr hlocks hS (v46_0, g1_c76, v46_1, g3_c76, g4_c76) (by exact ⟨Or.inr (⟨rfl, show (tpA (tbr tbf le.toInt) le.toInt fu.toInt pp.toInt).1.1 = 1 ∧ (tpA (tbr tbf le.toInt) le.toInt fu.toInt pp.toInt).1.2.1 = v46_0.toInt ∧ (tpA (tbr tbf le.toInt) le.toInt fu.toInt pp.toInt).1.2.2.1 = v46_1.toInt from tfa_1 (by rw [← q0_c76]; exact tpq_x (by omega) (by omega) (by omega) (by omega) (by omega) (by omega) (by omega) (by omega) (by omega))⟩), show 0 ≤ (g1_c76 : Int32).toInt ∧ (g1_c76 : Int32).toInt ≤ 120 from by omega, show 0 ≤ (v46_1 : Int32).toInt ∧ (v46_1 : Int32).toInt ≤ 120 from by omega, ha_g4_c76⟩) (hP.sub [2, 0, 1] rfl) (hD.sub [2, 0, 1] (by decide) rfl) dX8_isLand_211 rfl
                            · have f_45 : ¬ r_8.toInt ≤ 0 := zi_nle c_45
                              refine lv_aload_n hx hb dX8_isLand_171 rfl (lv_at hl 3 rfl) ?_
                              refine va_get (D := D) (ci := 7) (v := .ref sl) (C := RX8) (T := TX8) (N := 16) hx hb hts (fun _ h => List.mem_cons_of_mem _ (List.mem_append_right _ h)) hown hK hP 1 rfl rfl 0 (by decide) (hts (.fieldLink RX8 7 "WinterWalkModel" "slot" "[I") (List.mem_of_getElem? (i := 2) rfl)) (fun _ h9 => h9) rfl dX8_isLand_172 ?_
                              refine lv_sipush (v := 1597) hx hb dX8_isLand_175 (by decide) ?_
                              refine va_iald hx hb hK hP 0 0 rfl rfl (zi_in (by decide) (by decide)) dX8_isLand_178 ?_
                              refine lv_topi (fun x_47 ex_47 => ?_)
                              have f_47 : 0 ≤ x_47.toInt ∧ x_47.toInt ≤ 8 := by rw [ex_47]; exact si_v ha_g4_c76 (s := 28) (by decide) (by omega)
                              have u_47 : x_47.toInt = (ur g4_c76).1 := by rw [ex_47]; exact ux_v
                              refine lv_if_le (tgt := 194) hx hb dX8_isLand_179 (by decide) (fun c_48 => ?_) (fun c_48 => ?_)
                              · have f_48 : (ur g4_c76).1 ≤ 0 := by
                                  have h8 := zi_le c_48
                                  try rw [u_47] at h8
                                  exact h8
                                refine lv_aload_n hx hb dX8_isLand_194 rfl (lv_at hl 3 rfl) ?_
                                refine lv_iconst (v := 1) hx hb dX8_isLand_195 (by decide) ?_
                                refine lv_aload_n hx hb dX8_isLand_196 rfl (lv_at hl 3 rfl) ?_
                                refine va_get (D := D) (ci := 7) (v := .int g1_c76) (C := RX8) (T := TX8) (N := 16) hx hb hts (fun _ h => List.mem_cons_of_mem _ (List.mem_append_right _ h)) hown hK hP 1 rfl rfl 10 (by decide) (hts (.fieldLink RX8 62 "WinterWalkModel" "at" "I") (List.mem_of_getElem? (i := 1) rfl)) (fun _ h9 => h9) rfl dX8_isLand_197 ?_
                                have k_49 := (p_X8_fails l D cI cB cQ H.size h sl zs ln ir tk tb tr fz na su le g0_c76 g1_c76 g2_c76 tc g3_c76 1 g1_c76 (by omega) (by omega))
                                refine wc_i (WC := [(h, .inr (7, [.ref sl, .int na, .ref zs, .ref ln, .ref ir, .ref tk, .int su, .int le, .ref tb, .int g0_c76, .int g1_c76, .int g2_c76, .ref tr, .int tc, .ref fz, .int g3_c76]))]) (WR := [(sl, .inl (cI, 1653, .inl g4_c76)), (tb, .inl (cB, 120, .inl tbf))]) (va_runV (As := [.int 1, .int g1_c76]) (rest := []) ⟨hx, hb, hml, hown, hts⟩ k_49 (cwV 2 hts gX8_isLand_X8_fails rfl rfl rfl (by decide +kernel) ⟨Nat.le_of_ble_eq_true rfl, Nat.le_of_ble_eq_true rfl⟩) (wp_V hP hK hD hN [1] (by decide) rfl (ci := 7) rfl rfl) rfl rfl hl.1 rfl (lv_room (Nat.le_of_ble_eq_true rfl)) dX8_isLand_200 ⟨Nat.le_of_ble_eq_true rfl, Nat.le_of_ble_eq_true rfl⟩) hP hD hS hA [1] [0, 2] rfl rfl (by decide) (by decide) (fun r_49 => pe2 (fun v49_0 v49_1 H locs hw_49 hP hD hS => ?_))
                                clear k_49
                                have hP : va_P D kl [(sl, .inl (cI, 1653, .inl g4_c76)), (tb, .inl (cB, 120, .inl tbf)), (h, .inr (7, [.ref sl, .int na, .ref zs, .ref ln, .ref ir, .ref tk, .int su, .int le, .ref tb, .int v49_0, .int g1_c76, .int v49_1, .ref tr, .int tc, .ref fz, .int g3_c76]))] H := hP
                                have hD : va_D A [(sl, .inl (cI, 1653, .inl g4_c76)), (tb, .inl (cB, 120, .inl tbf)), (h, .inr (7, [.ref sl, .int na, .ref zs, .ref ln, .ref ir, .ref tk, .int su, .int le, .ref tb, .int v49_0, .int g1_c76, .int v49_1, .ref tr, .int tc, .ref fz, .int g3_c76]))] := hD
                                obtain ⟨c49_0, c49_1, c49_2⟩ := hw_49
                                have c49_1 : v49_0.toInt = (1 : Int) ∧ v49_1.toInt = g1_c76.toInt := c49_1
                                have c49_2 : 0 ≤ v49_1.toInt ∧ v49_1.toInt ≤ 120 := c49_2
                                have e_49 := c49_0
                                · subst e_49
                                  refine lv_istore (lv' := [(4, .int 0), (3, .int r_8), (2, .int r_7), (1, .int t1_c76), (0, .ref h)]) hx hb dX8_isLand_203 hl (by decide) rfl (fun ls hl => ?_)
                                  refine lv_iload hx hb dX8_isLand_205 (lv_at hl 0 rfl) ?_
                                  refine lv_if_ne (tgt := 212) hx hb dX8_isLand_207 (by decide) (fun c9 => absurd (by decide) c9) (fun _ => ?_)
                                  refine lv_iconst (v := 0) hx hb dX8_isLand_210 (by decide) ?_
                                  exact wr_z (v := 0) hx hb hr hlocks hS (v49_0, g1_c76, v49_1, g3_c76, g4_c76) (by exact ⟨Or.inr (⟨rfl, show (tpA (tbr tbf le.toInt) le.toInt fu.toInt pp.toInt).1.1 = 1 ∧ (tpA (tbr tbf le.toInt) le.toInt fu.toInt pp.toInt).1.2.1 = v49_0.toInt ∧ (tpA (tbr tbf le.toInt) le.toInt fu.toInt pp.toInt).1.2.2.1 = v49_1.toInt from tfa_1 (by rw [← q0_c76]; exact tpq_x (by omega) (by omega) (by omega) (by omega) (by omega) (by omega) (by omega) (by omega) (by omega))⟩), show 0 ≤ (g1_c76 : Int32).toInt ∧ (g1_c76 : Int32).toInt ≤ 120 from by omega, show 0 ≤ (v49_1 : Int32).toInt ∧ (v49_1 : Int32).toInt ≤ 120 from by omega, ha_g4_c76⟩) (hP.sub [2, 0, 1] rfl) (hD.sub [2, 0, 1] (by decide) rfl) dX8_isLand_211 rfl
                              · have f_48 : ¬ (ur g4_c76).1 ≤ 0 := by
                                  have h8 := zi_nle c_48
                                  try rw [u_47] at h8
                                  exact h8
                                refine lv_iconst (v := 2) hx hb dX8_isLand_182 (by decide) ?_
                                refine lv_istore_n (lv' := [(1, .int 2), (3, .int r_8), (2, .int r_7), (0, .ref h)]) hx hb dX8_isLand_183 rfl hl (by decide) rfl (fun ls hl => ?_)
                                refine lv_aload_n hx hb dX8_isLand_184 rfl (lv_at hl 3 rfl) ?_
                                refine lv_iload_n hx hb dX8_isLand_185 rfl (lv_at hl 2 rfl) ?_
                                have k_50 := (p_X8_isWalker l D cI cB cQ H.size h sl zs ln ir tk tb tr fz na su le g0_c76 g1_c76 g2_c76 tc g3_c76 r_7 g4_c76 tbf v0 ha_g4_c76 (by omega) (by omega) (by omega) (by omega) (by omega) (by omega) (by omega))
                                refine wc_i (WC := [(h, .inr (7, [.ref sl, .int na, .ref zs, .ref ln, .ref ir, .ref tk, .int su, .int le, .ref tb, .int g0_c76, .int g1_c76, .int g2_c76, .ref tr, .int tc, .ref fz, .int g3_c76])), (sl, .inl (cI, 1653, .inl g4_c76)), (tb, .inl (cB, 120, .inl tbf))]) (WR := []) (va_runV (As := [.int r_7]) (rest := []) ⟨hx, hb, hml, hown, hts⟩ k_50 (cwV 1 hts gX8_isLand_X8_isWalker rfl rfl rfl (by decide +kernel) ⟨Nat.le_of_ble_eq_true rfl, Nat.le_of_ble_eq_true rfl⟩) (wp_V hP hK hD hN [1, 0, 2] (by decide) rfl (ci := 7) rfl rfl) rfl rfl hl.1 rfl (lv_room (Nat.le_of_ble_eq_true rfl)) dX8_isLand_186 ⟨Nat.le_of_ble_eq_true rfl, Nat.le_of_ble_eq_true rfl⟩) hP hD hS hA [1, 0, 2] [] rfl rfl (by decide) (by decide) (fun r_50 => pe5 (fun v50_0 v50_1 v50_2 v50_3 v50_4 H locs hw_50 hP hD hS => ?_))
                                clear k_50
                                have hP : va_P D kl [(h, .inr (7, [.ref sl, .int na, .ref zs, .ref ln, .ref ir, .ref tk, .int su, .int le, .ref tb, .int v50_0, .int v50_1, .int v50_2, .ref tr, .int tc, .ref fz, .int v50_3])), (sl, .inl (cI, 1653, .inl v50_4)), (tb, .inl (cB, 120, .inl tbf))] H := hP
                                have hD : va_D A [(h, .inr (7, [.ref sl, .int na, .ref zs, .ref ln, .ref ir, .ref tk, .int su, .int le, .ref tb, .int v50_0, .int v50_1, .int v50_2, .ref tr, .int tc, .ref fz, .int v50_3])), (sl, .inl (cI, 1653, .inl v50_4)), (tb, .inl (cB, 120, .inl tbf))] := hD
                                obtain ⟨c50_0, c50_1, c50_2, c50_3, c50_4⟩ := hw_50
                                have c50_1 : (g1_c76.toInt ≤ v50_1.toInt) := c50_1
                                have c50_2 : 0 ≤ v50_1.toInt ∧ v50_1.toInt ≤ 120 := c50_2
                                have c50_3 : 0 ≤ v50_2.toInt ∧ v50_2.toInt ≤ 120 := c50_3
                                have c50_4 : SI v50_4 v0 := c50_4
                                rcases c50_0 with ⟨e_50, f_50⟩ | ⟨e_50, f_50⟩
                                · subst e_50
                                  have f_50 : ((((0, v50_0.toInt, v50_2.toInt, v50_1.toInt) : TPS), ur v50_4) : TPT) = tpW (tbr tbf le.toInt) ((0, g0_c76.toInt, g2_c76.toInt, g1_c76.toInt), ur g4_c76) ∧ g1_c76.toInt < v50_1.toInt ∧ (ur v50_4).1 = (ur g4_c76).1 ∧ (ur v50_4).2.1 = (ur g4_c76).2.1 := f_50
                                  refine lv_istore (lv' := [(4, .int 1), (1, .int 2), (3, .int r_8), (2, .int r_7), (0, .ref h)]) hx hb dX8_isLand_189 hl (by decide) rfl (fun ls hl => ?_)
                                  refine lv_goto (tgt := 205) hx hb dX8_isLand_191 (by decide) ?_
                                  refine lv_iload hx hb dX8_isLand_205 (lv_at hl 0 rfl) ?_
                                  refine lv_if_ne (tgt := 212) hx hb dX8_isLand_207 (by decide) (fun _ => ?_) (fun c9 => absurd c9 (by decide))
                                  refine lv_goto (tgt := 76) hx hb dX8_isLand_212 (by decide) ?_
                                  exact ih76 2 v50_0 v50_1 v50_2 v50_3 v50_4 _ _ _ (show 0 ≤ 2 ∧ 2 ≤ 2 from by omega) (show 0 ≤ v50_1.toInt ∧ v50_1.toInt ≤ 120 from by omega) (show 0 ≤ v50_2.toInt ∧ v50_2.toInt ≤ 120 from by omega) c50_4 (show 2 = 0 ∨ 1 ≤ (ur v50_4).1 from by omega) (show 0 ≤ (ur v50_4).1 from by omega) (show 0 ≤ (ur v50_4).2.1 ∧ (ur v50_4).2.1 ≤ 12 from by omega) (tpq_back q0_c76 (tpq_W (fun p hp => tbr_hi hp) (by omega) (by omega) (by omega) (by omega) (by omega)) f_50.1 (by first | omega | decide)) (by omega) (hP.sub [1, 0, 2] rfl) (hD.sub [1, 0, 2] (by decide) rfl) hS (lv_sub hl [1, 4] rfl)
                                · subst e_50
                                  have f_50 : tfa (tpW (tbr tbf le.toInt) ((0, g0_c76.toInt, g2_c76.toInt, g1_c76.toInt), ur g4_c76)).1 v50_0.toInt v50_2.toInt := f_50
                                  refine lv_istore (lv' := [(4, .int 0), (1, .int 2), (3, .int r_8), (2, .int r_7), (0, .ref h)]) hx hb dX8_isLand_189 hl (by decide) rfl (fun ls hl => ?_)
                                  refine lv_goto (tgt := 205) hx hb dX8_isLand_191 (by decide) ?_
                                  refine lv_iload hx hb dX8_isLand_205 (lv_at hl 0 rfl) ?_
                                  refine lv_if_ne (tgt := 212) hx hb dX8_isLand_207 (by decide) (fun c9 => absurd (by decide) c9) (fun _ => ?_)
                                  refine lv_iconst (v := 0) hx hb dX8_isLand_210 (by decide) ?_
                                  exact wr_z (v := 0) hx hb hr hlocks hS (v50_0, v50_1, v50_2, v50_3, v50_4) (by exact ⟨Or.inr (⟨rfl, show (tpA (tbr tbf le.toInt) le.toInt fu.toInt pp.toInt).1.1 = 1 ∧ (tpA (tbr tbf le.toInt) le.toInt fu.toInt pp.toInt).1.2.1 = v50_0.toInt ∧ (tpA (tbr tbf le.toInt) le.toInt fu.toInt pp.toInt).1.2.2.1 = v50_2.toInt from tfa_1 (tpq_fb q0_c76 (tpq_W (fun p hp => tbr_hi hp) (by omega) (by omega) (by omega) (by omega) (by omega)) f_50)⟩), show 0 ≤ (v50_1 : Int32).toInt ∧ (v50_1 : Int32).toInt ≤ 120 from by omega, show 0 ≤ (v50_2 : Int32).toInt ∧ (v50_2 : Int32).toInt ≤ 120 from by omega, c50_4⟩) (hP.sub [0, 1, 2] rfl) (hD.sub [0, 1, 2] (by decide) rfl) dX8_isLand_211 rfl
                          · have f_44 : r_7.toInt = 114 := zi_eq c_44
                            exfalso; omega
                        · have f_43 : t1_c76.toInt = 0 := zi_eq c_43
                          refine lv_aload_n hx hb dX8_isLand_124 rfl (lv_at hl 3 rfl) ?_
                          refine lv_iload_n hx hb dX8_isLand_125 rfl (lv_at hl 1 rfl) ?_
                          have k_51 := (p_X8_isVillage l D cI cB cQ H.size h sl zs ln ir tk tb tr fz na su le g0_c76 g1_c76 g2_c76 tc g3_c76 r_7 g4_c76 tbf v0 ha_g4_c76 (by omega) (by omega) (by omega) (by omega) (by omega) (by omega))
                          refine wc_i (WC := [(h, .inr (7, [.ref sl, .int na, .ref zs, .ref ln, .ref ir, .ref tk, .int su, .int le, .ref tb, .int g0_c76, .int g1_c76, .int g2_c76, .ref tr, .int tc, .ref fz, .int g3_c76])), (sl, .inl (cI, 1653, .inl g4_c76)), (tb, .inl (cB, 120, .inl tbf))]) (WR := []) (va_runV (As := [.int r_7]) (rest := []) ⟨hx, hb, hml, hown, hts⟩ k_51 (cwV 1 hts gX8_isLand_X8_isVillage rfl rfl rfl (by decide +kernel) ⟨Nat.le_of_ble_eq_true rfl, Nat.le_of_ble_eq_true rfl⟩) (wp_V hP hK hD hN [1, 0, 2] (by decide) rfl (ci := 7) rfl rfl) rfl rfl hl.1 rfl (lv_room (Nat.le_of_ble_eq_true rfl)) dX8_isLand_126 ⟨Nat.le_of_ble_eq_true rfl, Nat.le_of_ble_eq_true rfl⟩) hP hD hS hA [1, 0, 2] [] rfl rfl (by decide) (by decide) (fun r_51 => pe5 (fun v51_0 v51_1 v51_2 v51_3 v51_4 H locs hw_51 hP hD hS => ?_))
                          clear k_51
                          have hP : va_P D kl [(h, .inr (7, [.ref sl, .int na, .ref zs, .ref ln, .ref ir, .ref tk, .int su, .int le, .ref tb, .int v51_0, .int v51_1, .int v51_2, .ref tr, .int tc, .ref fz, .int v51_3])), (sl, .inl (cI, 1653, .inl v51_4)), (tb, .inl (cB, 120, .inl tbf))] H := hP
                          have hD : va_D A [(h, .inr (7, [.ref sl, .int na, .ref zs, .ref ln, .ref ir, .ref tk, .int su, .int le, .ref tb, .int v51_0, .int v51_1, .int v51_2, .ref tr, .int tc, .ref fz, .int v51_3])), (sl, .inl (cI, 1653, .inl v51_4)), (tb, .inl (cB, 120, .inl tbf))] := hD
                          obtain ⟨c51_0, c51_1, c51_2, c51_3, c51_4⟩ := hw_51
                          have c51_1 : (g1_c76.toInt ≤ v51_1.toInt) := c51_1
                          have c51_2 : 0 ≤ v51_1.toInt ∧ v51_1.toInt ≤ 120 := c51_2
                          have c51_3 : 0 ≤ v51_2.toInt ∧ v51_2.toInt ≤ 120 := c51_3
                          have c51_4 : SI v51_4 v0 := c51_4
                          rcases c51_0 with ⟨e_51, f_51⟩ | ⟨e_51, f_51⟩
                          · subst e_51
                            have f_51 : ((((0, v51_0.toInt, v51_2.toInt, v51_1.toInt) : TPS), ur v51_4) : TPT) = tpV (tbr tbf le.toInt) ((0, g0_c76.toInt, g2_c76.toInt, g1_c76.toInt), ur g4_c76) ∧ g1_c76.toInt < v51_1.toInt ∧ (ur v51_4).1 = (ur g4_c76).1 + 1 ∧ (ur v51_4).2.1 = (ur g4_c76).2.1 := f_51
                            refine lv_istore (lv' := [(4, .int 1), (3, .int r_8), (2, .int r_7), (1, .int t1_c76), (0, .ref h)]) hx hb dX8_isLand_129 hl (by decide) rfl (fun ls hl => ?_)
                            refine lv_goto (tgt := 205) hx hb dX8_isLand_131 (by decide) ?_
                            refine lv_iload hx hb dX8_isLand_205 (lv_at hl 0 rfl) ?_
                            refine lv_if_ne (tgt := 212) hx hb dX8_isLand_207 (by decide) (fun _ => ?_) (fun c9 => absurd c9 (by decide))
                            refine lv_goto (tgt := 76) hx hb dX8_isLand_212 (by decide) ?_
                            exact ih76 t1_c76 v51_0 v51_1 v51_2 v51_3 v51_4 _ _ _ (show 0 ≤ t1_c76.toInt ∧ t1_c76.toInt ≤ 2 from by omega) (show 0 ≤ v51_1.toInt ∧ v51_1.toInt ≤ 120 from by omega) (show 0 ≤ v51_2.toInt ∧ v51_2.toInt ≤ 120 from by omega) c51_4 (show t1_c76.toInt = 0 ∨ 1 ≤ (ur v51_4).1 from by omega) (show 0 ≤ (ur v51_4).1 from by omega) (show 0 ≤ (ur v51_4).2.1 ∧ (ur v51_4).2.1 ≤ 12 from by omega) (tpq_back q0_c76 (tpq_V (fun p hp => tbr_hi hp) (by omega) (by omega) (by omega) (by omega) (by omega)) f_51.1 (by first | omega | decide)) (by omega) (hP.sub [1, 0, 2] rfl) (hD.sub [1, 0, 2] (by decide) rfl) hS (lv_sub hl [3, 4] rfl)
                          · subst e_51
                            have f_51 : tfa (tpV (tbr tbf le.toInt) ((0, g0_c76.toInt, g2_c76.toInt, g1_c76.toInt), ur g4_c76)).1 v51_0.toInt v51_2.toInt := f_51
                            refine lv_istore (lv' := [(4, .int 0), (3, .int r_8), (2, .int r_7), (1, .int t1_c76), (0, .ref h)]) hx hb dX8_isLand_129 hl (by decide) rfl (fun ls hl => ?_)
                            refine lv_goto (tgt := 205) hx hb dX8_isLand_131 (by decide) ?_
                            refine lv_iload hx hb dX8_isLand_205 (lv_at hl 0 rfl) ?_
                            refine lv_if_ne (tgt := 212) hx hb dX8_isLand_207 (by decide) (fun c9 => absurd (by decide) c9) (fun _ => ?_)
                            refine lv_iconst (v := 0) hx hb dX8_isLand_210 (by decide) ?_
                            exact wr_z (v := 0) hx hb hr hlocks hS (v51_0, v51_1, v51_2, v51_3, v51_4) (by exact ⟨Or.inr (⟨rfl, show (tpA (tbr tbf le.toInt) le.toInt fu.toInt pp.toInt).1.1 = 1 ∧ (tpA (tbr tbf le.toInt) le.toInt fu.toInt pp.toInt).1.2.1 = v51_0.toInt ∧ (tpA (tbr tbf le.toInt) le.toInt fu.toInt pp.toInt).1.2.2.1 = v51_2.toInt from tfa_1 (tpq_fb q0_c76 (tpq_V (fun p hp => tbr_hi hp) (by omega) (by omega) (by omega) (by omega) (by omega)) f_51)⟩), show 0 ≤ (v51_1 : Int32).toInt ∧ (v51_1 : Int32).toInt ≤ 120 from by omega, show 0 ≤ (v51_2 : Int32).toInt ∧ (v51_2 : Int32).toInt ≤ 120 from by omega, c51_4⟩) (hP.sub [0, 1, 2] rfl) (hD.sub [0, 1, 2] (by decide) rfl) dX8_isLand_211 rfl
                  · have f_6 : ¬ g1_c76.toInt < le.toInt := zi_nlt c_6
                    refine lv_aload_n hx hb dX8_isLand_87 rfl (lv_at hl 1 rfl) ?_
                    refine va_get (D := D) (ci := 7) (v := .ref sl) (C := RX8) (T := TX8) (N := 16) hx hb hts (fun _ h => List.mem_cons_of_mem _ (List.mem_append_right _ h)) hown hK hP 1 rfl rfl 0 (by decide) (hts (.fieldLink RX8 7 "WinterWalkModel" "slot" "[I") (List.mem_of_getElem? (i := 2) rfl)) (fun _ h9 => h9) rfl dX8_isLand_88 ?_
                    refine lv_sipush (v := 1597) hx hb dX8_isLand_91 (by decide) ?_
                    refine va_iald hx hb hK hP 0 0 rfl rfl (zi_in (by decide) (by decide)) dX8_isLand_94 ?_
                    refine lv_topi (fun x_52 ex_52 => ?_)
                    have f_52 : 0 ≤ x_52.toInt ∧ x_52.toInt ≤ 8 := by rw [ex_52]; exact si_v ha_g4_c76 (s := 28) (by decide) (by omega)
                    have u_52 : x_52.toInt = (ur g4_c76).1 := by rw [ex_52]; exact ux_v
                    refine lv_if_ne (tgt := 215) hx hb dX8_isLand_95 (by decide) (fun c_53 => ?_) (fun c_53 => ?_)
                    · have f_53 : ¬ (ur g4_c76).1 = 0 := by
                        have h8 := zi_ne c_53
                        try rw [u_52] at h8
                        exact h8
                      refine lv_iconst (v := 1) hx hb dX8_isLand_215 (by decide) ?_
                      exact wr_z (v := 1) hx hb hr hlocks hS (g0_c76, g1_c76, g2_c76, g3_c76, g4_c76) (by exact ⟨Or.inl ⟨rfl, show ((tpA (tbr tbf le.toInt) le.toInt fu.toInt pp.toInt).1.1 = 0 ∧ (tpA (tbr tbf le.toInt) le.toInt fu.toInt pp.toInt).1.2.1 = g0_c76.toInt ∧ (tpA (tbr tbf le.toInt) le.toInt fu.toInt pp.toInt).1.2.2.1 = g2_c76.toInt ∧ (tpA (tbr tbf le.toInt) le.toInt fu.toInt pp.toInt).2.1 = (ur g4_c76).1) ∧ ((((0, g0_c76.toInt, g2_c76.toInt, g1_c76.toInt) : TPS), ur g4_c76) : TPT) = (tpA (tbr tbf le.toInt) le.toInt fu.toInt pp.toInt) from by have hA : ((((0, g0_c76.toInt, g2_c76.toInt, g1_c76.toInt) : TPS), ur g4_c76) : TPT) = (tpA (tbr tbf le.toInt) le.toInt fu.toInt pp.toInt) := (by rw [← q0_c76]; exact (tpq_e (fun p hp => tbr_hi hp) (by omega) (by omega) (by omega)).symm); exact ⟨⟨(congrArg (fun s : TPT => s.1.1) hA).symm, (congrArg (fun s : TPT => s.1.2.1) hA).symm, (congrArg (fun s : TPT => s.1.2.2.1) hA).symm, (congrArg (fun s : TPT => s.2.1) hA).symm⟩, hA⟩⟩, show 0 ≤ (g1_c76 : Int32).toInt ∧ (g1_c76 : Int32).toInt ≤ 120 from by omega, show 0 ≤ (g2_c76 : Int32).toInt ∧ (g2_c76 : Int32).toInt ≤ 120 from by omega, ha_g4_c76⟩) (hP.sub [1, 0, 2] rfl) (hD.sub [1, 0, 2] (by decide) rfl) dX8_isLand_216 rfl
                    · have f_53 : (ur g4_c76).1 = 0 := by
                        have h8 := zi_eq c_53
                        try rw [u_52] at h8
                        exact h8
                      refine lv_aload_n hx hb dX8_isLand_98 rfl (lv_at hl 1 rfl) ?_
                      have k_54 := (p_X8_next l D cI cB cQ H.size h sl zs ln ir tk tb tr fz na su le g0_c76 g1_c76 g2_c76 tc g3_c76 tbf (by omega) (by omega) (by omega) (by omega) (by omega))
                      refine wc_i (WC := [(h, .inr (7, [.ref sl, .int na, .ref zs, .ref ln, .ref ir, .ref tk, .int su, .int le, .ref tb, .int g0_c76, .int g1_c76, .int g2_c76, .ref tr, .int tc, .ref fz, .int g3_c76])), (tb, .inl (cB, 120, .inl tbf))]) (WR := [(sl, .inl (cI, 1653, .inl g4_c76))]) (va_runV (As := []) (rest := []) ⟨hx, hb, hml, hown, hts⟩ k_54 (cwV 0 hts gX8_isLand_X8_next rfl rfl rfl (by decide +kernel) ⟨Nat.le_of_ble_eq_true rfl, Nat.le_of_ble_eq_true rfl⟩) (wp_V hP hK hD hN [1, 2] (by decide) rfl (ci := 7) rfl rfl) rfl rfl hl.1 rfl (lv_room (Nat.le_of_ble_eq_true rfl)) dX8_isLand_99 ⟨Nat.le_of_ble_eq_true rfl, Nat.le_of_ble_eq_true rfl⟩) hP hD hS hA [1, 2] [0] rfl rfl (by decide) (by decide) (fun r_54 u_54 H locs hw_54 hP hD hS => ?_)
                      clear k_54
                      have hP : va_P D kl [(sl, .inl (cI, 1653, .inl g4_c76)), (h, .inr (7, [.ref sl, .int na, .ref zs, .ref ln, .ref ir, .ref tk, .int su, .int le, .ref tb, .int g0_c76, .int g1_c76, .int g2_c76, .ref tr, .int tc, .ref fz, .int g3_c76])), (tb, .inl (cB, 120, .inl tbf))] H := hP
                      have hD : va_D A [(sl, .inl (cI, 1653, .inl g4_c76)), (h, .inr (7, [.ref sl, .int na, .ref zs, .ref ln, .ref ir, .ref tk, .int su, .int le, .ref tb, .int g0_c76, .int g1_c76, .int g2_c76, .ref tr, .int tc, .ref fz, .int g3_c76])), (tb, .inl (cB, 120, .inl tbf))] := hD
                      have c54_0 := hw_54
                      have c54_0 : (r_54.toInt = tbr tbf le.toInt g1_c76.toInt ∨ (r_54.toInt < 0 ∧ tbr tbf le.toInt g1_c76.toInt = (-1))) ∧ (r_54.toInt = (-1) ∨ g1_c76.toInt < le.toInt) := c54_0
                      refine lv_istore_n (lv' := [(2, .int r_54), (1, .int t1_c76), (0, .ref h)]) hx hb dX8_isLand_102 rfl hl (by decide) rfl (fun ls hl => ?_)
                      refine lv_iload_n hx hb dX8_isLand_103 rfl (lv_at hl 0 rfl) ?_
                      have k_55 := (p_X8_sortOf l D cI cB cQ H.size r_54)
                      refine wc_i (WC := []) (WR := [(sl, .inl (cI, 1653, .inl g4_c76)), (h, .inr (7, [.ref sl, .int na, .ref zs, .ref ln, .ref ir, .ref tk, .int su, .int le, .ref tb, .int g0_c76, .int g1_c76, .int g2_c76, .ref tr, .int tc, .ref fz, .int g3_c76])), (tb, .inl (cB, 120, .inl tbf))]) (va_runS (As := [.int r_54]) (rest := []) ⟨hx, hb, hml, hown, hts⟩ k_55 (va_cwS 1 hts gX8_isLand_X8_sortOf rfl rfl rfl (by decide +kernel) ⟨Nat.le_of_ble_eq_true rfl, Nat.le_of_ble_eq_true rfl⟩) (wp_S hP hK hD hN [] (by decide) rfl) rfl rfl hl.1 rfl (lv_room (Nat.le_of_ble_eq_true rfl)) dX8_isLand_104 ⟨Nat.le_of_ble_eq_true rfl, Nat.le_of_ble_eq_true rfl⟩) hP hD hS hA [] [0, 1, 2] rfl rfl (by decide) (by decide) (fun r_55 u_55 H locs hw_55 hP hD hS => ?_)
                      clear k_55
                      have hP : va_P D kl [(sl, .inl (cI, 1653, .inl g4_c76)), (h, .inr (7, [.ref sl, .int na, .ref zs, .ref ln, .ref ir, .ref tk, .int su, .int le, .ref tb, .int g0_c76, .int g1_c76, .int g2_c76, .ref tr, .int tc, .ref fz, .int g3_c76])), (tb, .inl (cB, 120, .inl tbf))] H := hP
                      have hD : va_D A [(sl, .inl (cI, 1653, .inl g4_c76)), (h, .inr (7, [.ref sl, .int na, .ref zs, .ref ln, .ref ir, .ref tk, .int su, .int le, .ref tb, .int g0_c76, .int g1_c76, .int g2_c76, .ref tr, .int tc, .ref fz, .int g3_c76])), (tb, .inl (cB, 120, .inl tbf))] := hD
                      have c55_0 := hw_55
                      have c55_0 : r_55.toInt = tpo r_54.toInt ∧ ((0 ≤ r_55.toInt ∧ r_55.toInt ≤ 5) ∧ (r_55.toInt = 0 ∨ 0 ≤ r_54.toInt)) := c55_0
                      have hs_55 := tpo_same c54_0.1
                      refine lv_istore_n (lv' := [(3, .int r_55), (2, .int r_54), (1, .int t1_c76), (0, .ref h)]) hx hb dX8_isLand_107 rfl hl (by decide) rfl (fun ls hl => ?_)
                      refine lv_iload_n hx hb dX8_isLand_108 rfl (lv_at hl 1 rfl) ?_
                      refine lv_bipush (v := 103) hx hb dX8_isLand_109 (by decide) ?_
                      refine lv_icmp_eq (tgt := 120) hx hb dX8_isLand_111 (by decide) (fun c_56 => ?_) (fun c_56 => ?_)
                      · have f_56 : r_54.toInt = 103 := zi_eq c_56
                        refine lv_iload_n hx hb dX8_isLand_120 rfl (lv_at hl 2 rfl) ?_
                        refine lv_if_ne (tgt := 134) hx hb dX8_isLand_121 (by decide) (fun c_57 => ?_) (fun c_57 => ?_)
                        · have f_57 : ¬ t1_c76.toInt = 0 := zi_ne c_57
                          refine lv_iload_n hx hb dX8_isLand_134 rfl (lv_at hl 1 rfl) ?_
                          refine lv_bipush (v := 114) hx hb dX8_isLand_135 (by decide) ?_
                          refine lv_icmp_ne (tgt := 167) hx hb dX8_isLand_137 (by decide) (fun c_58 => ?_) (fun c_58 => ?_)
                          · have f_58 : ¬ r_54.toInt = 114 := zi_ne c_58
                            refine lv_iload_n hx hb dX8_isLand_167 rfl (lv_at hl 0 rfl) ?_
                            refine lv_if_le (tgt := 194) hx hb dX8_isLand_168 (by decide) (fun c_59 => ?_) (fun c_59 => ?_)
                            · have f_59 : r_55.toInt ≤ 0 := zi_le c_59
                              refine lv_aload_n hx hb dX8_isLand_194 rfl (lv_at hl 3 rfl) ?_
                              refine lv_iconst (v := 1) hx hb dX8_isLand_195 (by decide) ?_
                              refine lv_aload_n hx hb dX8_isLand_196 rfl (lv_at hl 3 rfl) ?_
                              refine va_get (D := D) (ci := 7) (v := .int g1_c76) (C := RX8) (T := TX8) (N := 16) hx hb hts (fun _ h => List.mem_cons_of_mem _ (List.mem_append_right _ h)) hown hK hP 1 rfl rfl 10 (by decide) (hts (.fieldLink RX8 62 "WinterWalkModel" "at" "I") (List.mem_of_getElem? (i := 1) rfl)) (fun _ h9 => h9) rfl dX8_isLand_197 ?_
                              have k_60 := (p_X8_fails l D cI cB cQ H.size h sl zs ln ir tk tb tr fz na su le g0_c76 g1_c76 g2_c76 tc g3_c76 1 g1_c76 (by omega) (by omega))
                              refine wc_i (WC := [(h, .inr (7, [.ref sl, .int na, .ref zs, .ref ln, .ref ir, .ref tk, .int su, .int le, .ref tb, .int g0_c76, .int g1_c76, .int g2_c76, .ref tr, .int tc, .ref fz, .int g3_c76]))]) (WR := [(sl, .inl (cI, 1653, .inl g4_c76)), (tb, .inl (cB, 120, .inl tbf))]) (va_runV (As := [.int 1, .int g1_c76]) (rest := []) ⟨hx, hb, hml, hown, hts⟩ k_60 (cwV 2 hts gX8_isLand_X8_fails rfl rfl rfl (by decide +kernel) ⟨Nat.le_of_ble_eq_true rfl, Nat.le_of_ble_eq_true rfl⟩) (wp_V hP hK hD hN [1] (by decide) rfl (ci := 7) rfl rfl) rfl rfl hl.1 rfl (lv_room (Nat.le_of_ble_eq_true rfl)) dX8_isLand_200 ⟨Nat.le_of_ble_eq_true rfl, Nat.le_of_ble_eq_true rfl⟩) hP hD hS hA [1] [0, 2] rfl rfl (by decide) (by decide) (fun r_60 => pe2 (fun v60_0 v60_1 H locs hw_60 hP hD hS => ?_))
                              clear k_60
                              have hP : va_P D kl [(sl, .inl (cI, 1653, .inl g4_c76)), (tb, .inl (cB, 120, .inl tbf)), (h, .inr (7, [.ref sl, .int na, .ref zs, .ref ln, .ref ir, .ref tk, .int su, .int le, .ref tb, .int v60_0, .int g1_c76, .int v60_1, .ref tr, .int tc, .ref fz, .int g3_c76]))] H := hP
                              have hD : va_D A [(sl, .inl (cI, 1653, .inl g4_c76)), (tb, .inl (cB, 120, .inl tbf)), (h, .inr (7, [.ref sl, .int na, .ref zs, .ref ln, .ref ir, .ref tk, .int su, .int le, .ref tb, .int v60_0, .int g1_c76, .int v60_1, .ref tr, .int tc, .ref fz, .int g3_c76]))] := hD
                              obtain ⟨c60_0, c60_1, c60_2⟩ := hw_60
                              have c60_1 : v60_0.toInt = (1 : Int) ∧ v60_1.toInt = g1_c76.toInt := c60_1
                              have c60_2 : 0 ≤ v60_1.toInt ∧ v60_1.toInt ≤ 120 := c60_2
                              have e_60 := c60_0
                              · subst e_60
                                refine lv_istore (lv' := [(4, .int 0), (3, .int r_55), (2, .int r_54), (1, .int t1_c76), (0, .ref h)]) hx hb dX8_isLand_203 hl (by decide) rfl (fun ls hl => ?_)
                                refine lv_iload hx hb dX8_isLand_205 (lv_at hl 0 rfl) ?_
                                refine lv_if_ne (tgt := 212) hx hb dX8_isLand_207 (by decide) (fun c9 => absurd (by decide) c9) (fun _ => ?_)
                                refine lv_iconst (v := 0) hx hb dX8_isLand_210 (by decide) ?_
                                exact wr_z (v := 0) hx hb hr hlocks hS (v60_0, g1_c76, v60_1, g3_c76, g4_c76) (by exact ⟨Or.inr (⟨rfl, show (tpA (tbr tbf le.toInt) le.toInt fu.toInt pp.toInt).1.1 = 1 ∧ (tpA (tbr tbf le.toInt) le.toInt fu.toInt pp.toInt).1.2.1 = v60_0.toInt ∧ (tpA (tbr tbf le.toInt) le.toInt fu.toInt pp.toInt).1.2.2.1 = v60_1.toInt from tfa_1 (by rw [← q0_c76]; exact tpq_x (by omega) (by omega) (by omega) (by omega) (by omega) (by omega) (by omega) (by omega) (by omega))⟩), show 0 ≤ (g1_c76 : Int32).toInt ∧ (g1_c76 : Int32).toInt ≤ 120 from by omega, show 0 ≤ (v60_1 : Int32).toInt ∧ (v60_1 : Int32).toInt ≤ 120 from by omega, ha_g4_c76⟩) (hP.sub [2, 0, 1] rfl) (hD.sub [2, 0, 1] (by decide) rfl) dX8_isLand_211 rfl
                            · have f_59 : ¬ r_55.toInt ≤ 0 := zi_nle c_59
                              refine lv_aload_n hx hb dX8_isLand_171 rfl (lv_at hl 3 rfl) ?_
                              refine va_get (D := D) (ci := 7) (v := .ref sl) (C := RX8) (T := TX8) (N := 16) hx hb hts (fun _ h => List.mem_cons_of_mem _ (List.mem_append_right _ h)) hown hK hP 1 rfl rfl 0 (by decide) (hts (.fieldLink RX8 7 "WinterWalkModel" "slot" "[I") (List.mem_of_getElem? (i := 2) rfl)) (fun _ h9 => h9) rfl dX8_isLand_172 ?_
                              refine lv_sipush (v := 1597) hx hb dX8_isLand_175 (by decide) ?_
                              refine va_iald hx hb hK hP 0 0 rfl rfl (zi_in (by decide) (by decide)) dX8_isLand_178 ?_
                              refine lv_topi (fun x_61 ex_61 => ?_)
                              have f_61 : 0 ≤ x_61.toInt ∧ x_61.toInt ≤ 8 := by rw [ex_61]; exact si_v ha_g4_c76 (s := 28) (by decide) (by omega)
                              have u_61 : x_61.toInt = (ur g4_c76).1 := by rw [ex_61]; exact ux_v
                              refine lv_if_le (tgt := 194) hx hb dX8_isLand_179 (by decide) (fun c_62 => ?_) (fun c_62 => ?_)
                              · have f_62 : (ur g4_c76).1 ≤ 0 := by
                                  have h8 := zi_le c_62
                                  try rw [u_61] at h8
                                  exact h8
                                refine lv_aload_n hx hb dX8_isLand_194 rfl (lv_at hl 3 rfl) ?_
                                refine lv_iconst (v := 1) hx hb dX8_isLand_195 (by decide) ?_
                                refine lv_aload_n hx hb dX8_isLand_196 rfl (lv_at hl 3 rfl) ?_
                                refine va_get (D := D) (ci := 7) (v := .int g1_c76) (C := RX8) (T := TX8) (N := 16) hx hb hts (fun _ h => List.mem_cons_of_mem _ (List.mem_append_right _ h)) hown hK hP 1 rfl rfl 10 (by decide) (hts (.fieldLink RX8 62 "WinterWalkModel" "at" "I") (List.mem_of_getElem? (i := 1) rfl)) (fun _ h9 => h9) rfl dX8_isLand_197 ?_
                                have k_63 := (p_X8_fails l D cI cB cQ H.size h sl zs ln ir tk tb tr fz na su le g0_c76 g1_c76 g2_c76 tc g3_c76 1 g1_c76 (by omega) (by omega))
                                refine wc_i (WC := [(h, .inr (7, [.ref sl, .int na, .ref zs, .ref ln, .ref ir, .ref tk, .int su, .int le, .ref tb, .int g0_c76, .int g1_c76, .int g2_c76, .ref tr, .int tc, .ref fz, .int g3_c76]))]) (WR := [(sl, .inl (cI, 1653, .inl g4_c76)), (tb, .inl (cB, 120, .inl tbf))]) (va_runV (As := [.int 1, .int g1_c76]) (rest := []) ⟨hx, hb, hml, hown, hts⟩ k_63 (cwV 2 hts gX8_isLand_X8_fails rfl rfl rfl (by decide +kernel) ⟨Nat.le_of_ble_eq_true rfl, Nat.le_of_ble_eq_true rfl⟩) (wp_V hP hK hD hN [1] (by decide) rfl (ci := 7) rfl rfl) rfl rfl hl.1 rfl (lv_room (Nat.le_of_ble_eq_true rfl)) dX8_isLand_200 ⟨Nat.le_of_ble_eq_true rfl, Nat.le_of_ble_eq_true rfl⟩) hP hD hS hA [1] [0, 2] rfl rfl (by decide) (by decide) (fun r_63 => pe2 (fun v63_0 v63_1 H locs hw_63 hP hD hS => ?_))
                                clear k_63
                                have hP : va_P D kl [(sl, .inl (cI, 1653, .inl g4_c76)), (tb, .inl (cB, 120, .inl tbf)), (h, .inr (7, [.ref sl, .int na, .ref zs, .ref ln, .ref ir, .ref tk, .int su, .int le, .ref tb, .int v63_0, .int g1_c76, .int v63_1, .ref tr, .int tc, .ref fz, .int g3_c76]))] H := hP
                                have hD : va_D A [(sl, .inl (cI, 1653, .inl g4_c76)), (tb, .inl (cB, 120, .inl tbf)), (h, .inr (7, [.ref sl, .int na, .ref zs, .ref ln, .ref ir, .ref tk, .int su, .int le, .ref tb, .int v63_0, .int g1_c76, .int v63_1, .ref tr, .int tc, .ref fz, .int g3_c76]))] := hD
                                obtain ⟨c63_0, c63_1, c63_2⟩ := hw_63
                                have c63_1 : v63_0.toInt = (1 : Int) ∧ v63_1.toInt = g1_c76.toInt := c63_1
                                have c63_2 : 0 ≤ v63_1.toInt ∧ v63_1.toInt ≤ 120 := c63_2
                                have e_63 := c63_0
                                · subst e_63
                                  refine lv_istore (lv' := [(4, .int 0), (3, .int r_55), (2, .int r_54), (1, .int t1_c76), (0, .ref h)]) hx hb dX8_isLand_203 hl (by decide) rfl (fun ls hl => ?_)
                                  refine lv_iload hx hb dX8_isLand_205 (lv_at hl 0 rfl) ?_
                                  refine lv_if_ne (tgt := 212) hx hb dX8_isLand_207 (by decide) (fun c9 => absurd (by decide) c9) (fun _ => ?_)
                                  refine lv_iconst (v := 0) hx hb dX8_isLand_210 (by decide) ?_
                                  exact wr_z (v := 0) hx hb hr hlocks hS (v63_0, g1_c76, v63_1, g3_c76, g4_c76) (by exact ⟨Or.inr (⟨rfl, show (tpA (tbr tbf le.toInt) le.toInt fu.toInt pp.toInt).1.1 = 1 ∧ (tpA (tbr tbf le.toInt) le.toInt fu.toInt pp.toInt).1.2.1 = v63_0.toInt ∧ (tpA (tbr tbf le.toInt) le.toInt fu.toInt pp.toInt).1.2.2.1 = v63_1.toInt from tfa_1 (by rw [← q0_c76]; exact tpq_x (by omega) (by omega) (by omega) (by omega) (by omega) (by omega) (by omega) (by omega) (by omega))⟩), show 0 ≤ (g1_c76 : Int32).toInt ∧ (g1_c76 : Int32).toInt ≤ 120 from by omega, show 0 ≤ (v63_1 : Int32).toInt ∧ (v63_1 : Int32).toInt ≤ 120 from by omega, ha_g4_c76⟩) (hP.sub [2, 0, 1] rfl) (hD.sub [2, 0, 1] (by decide) rfl) dX8_isLand_211 rfl
                              · have f_62 : ¬ (ur g4_c76).1 ≤ 0 := by
                                  have h8 := zi_nle c_62
                                  try rw [u_61] at h8
                                  exact h8
                                refine lv_iconst (v := 2) hx hb dX8_isLand_182 (by decide) ?_
                                refine lv_istore_n (lv' := [(1, .int 2), (3, .int r_55), (2, .int r_54), (0, .ref h)]) hx hb dX8_isLand_183 rfl hl (by decide) rfl (fun ls hl => ?_)
                                refine lv_aload_n hx hb dX8_isLand_184 rfl (lv_at hl 3 rfl) ?_
                                refine lv_iload_n hx hb dX8_isLand_185 rfl (lv_at hl 2 rfl) ?_
                                have k_64 := (p_X8_isWalker l D cI cB cQ H.size h sl zs ln ir tk tb tr fz na su le g0_c76 g1_c76 g2_c76 tc g3_c76 r_54 g4_c76 tbf v0 ha_g4_c76 (by omega) (by omega) (by omega) (by omega) (by omega) (by omega) (by omega))
                                refine wc_i (WC := [(h, .inr (7, [.ref sl, .int na, .ref zs, .ref ln, .ref ir, .ref tk, .int su, .int le, .ref tb, .int g0_c76, .int g1_c76, .int g2_c76, .ref tr, .int tc, .ref fz, .int g3_c76])), (sl, .inl (cI, 1653, .inl g4_c76)), (tb, .inl (cB, 120, .inl tbf))]) (WR := []) (va_runV (As := [.int r_54]) (rest := []) ⟨hx, hb, hml, hown, hts⟩ k_64 (cwV 1 hts gX8_isLand_X8_isWalker rfl rfl rfl (by decide +kernel) ⟨Nat.le_of_ble_eq_true rfl, Nat.le_of_ble_eq_true rfl⟩) (wp_V hP hK hD hN [1, 0, 2] (by decide) rfl (ci := 7) rfl rfl) rfl rfl hl.1 rfl (lv_room (Nat.le_of_ble_eq_true rfl)) dX8_isLand_186 ⟨Nat.le_of_ble_eq_true rfl, Nat.le_of_ble_eq_true rfl⟩) hP hD hS hA [1, 0, 2] [] rfl rfl (by decide) (by decide) (fun r_64 => pe5 (fun v64_0 v64_1 v64_2 v64_3 v64_4 H locs hw_64 hP hD hS => ?_))
                                clear k_64
                                have hP : va_P D kl [(h, .inr (7, [.ref sl, .int na, .ref zs, .ref ln, .ref ir, .ref tk, .int su, .int le, .ref tb, .int v64_0, .int v64_1, .int v64_2, .ref tr, .int tc, .ref fz, .int v64_3])), (sl, .inl (cI, 1653, .inl v64_4)), (tb, .inl (cB, 120, .inl tbf))] H := hP
                                have hD : va_D A [(h, .inr (7, [.ref sl, .int na, .ref zs, .ref ln, .ref ir, .ref tk, .int su, .int le, .ref tb, .int v64_0, .int v64_1, .int v64_2, .ref tr, .int tc, .ref fz, .int v64_3])), (sl, .inl (cI, 1653, .inl v64_4)), (tb, .inl (cB, 120, .inl tbf))] := hD
                                obtain ⟨c64_0, c64_1, c64_2, c64_3, c64_4⟩ := hw_64
                                have c64_1 : (g1_c76.toInt ≤ v64_1.toInt) := c64_1
                                have c64_2 : 0 ≤ v64_1.toInt ∧ v64_1.toInt ≤ 120 := c64_2
                                have c64_3 : 0 ≤ v64_2.toInt ∧ v64_2.toInt ≤ 120 := c64_3
                                have c64_4 : SI v64_4 v0 := c64_4
                                rcases c64_0 with ⟨e_64, f_64⟩ | ⟨e_64, f_64⟩
                                · subst e_64
                                  have f_64 : ((((0, v64_0.toInt, v64_2.toInt, v64_1.toInt) : TPS), ur v64_4) : TPT) = tpW (tbr tbf le.toInt) ((0, g0_c76.toInt, g2_c76.toInt, g1_c76.toInt), ur g4_c76) ∧ g1_c76.toInt < v64_1.toInt ∧ (ur v64_4).1 = (ur g4_c76).1 ∧ (ur v64_4).2.1 = (ur g4_c76).2.1 := f_64
                                  refine lv_istore (lv' := [(4, .int 1), (1, .int 2), (3, .int r_55), (2, .int r_54), (0, .ref h)]) hx hb dX8_isLand_189 hl (by decide) rfl (fun ls hl => ?_)
                                  refine lv_goto (tgt := 205) hx hb dX8_isLand_191 (by decide) ?_
                                  refine lv_iload hx hb dX8_isLand_205 (lv_at hl 0 rfl) ?_
                                  refine lv_if_ne (tgt := 212) hx hb dX8_isLand_207 (by decide) (fun _ => ?_) (fun c9 => absurd c9 (by decide))
                                  refine lv_goto (tgt := 76) hx hb dX8_isLand_212 (by decide) ?_
                                  exact ih76 2 v64_0 v64_1 v64_2 v64_3 v64_4 _ _ _ (show 0 ≤ 2 ∧ 2 ≤ 2 from by omega) (show 0 ≤ v64_1.toInt ∧ v64_1.toInt ≤ 120 from by omega) (show 0 ≤ v64_2.toInt ∧ v64_2.toInt ≤ 120 from by omega) c64_4 (show 2 = 0 ∨ 1 ≤ (ur v64_4).1 from by omega) (show 0 ≤ (ur v64_4).1 from by omega) (show 0 ≤ (ur v64_4).2.1 ∧ (ur v64_4).2.1 ≤ 12 from by omega) (tpq_back q0_c76 (tpq_W (fun p hp => tbr_hi hp) (by omega) (by omega) (by omega) (by omega) (by omega)) f_64.1 (by first | omega | decide)) (by omega) (hP.sub [1, 0, 2] rfl) (hD.sub [1, 0, 2] (by decide) rfl) hS (lv_sub hl [1, 4] rfl)
                                · subst e_64
                                  have f_64 : tfa (tpW (tbr tbf le.toInt) ((0, g0_c76.toInt, g2_c76.toInt, g1_c76.toInt), ur g4_c76)).1 v64_0.toInt v64_2.toInt := f_64
                                  refine lv_istore (lv' := [(4, .int 0), (1, .int 2), (3, .int r_55), (2, .int r_54), (0, .ref h)]) hx hb dX8_isLand_189 hl (by decide) rfl (fun ls hl => ?_)
                                  refine lv_goto (tgt := 205) hx hb dX8_isLand_191 (by decide) ?_
                                  refine lv_iload hx hb dX8_isLand_205 (lv_at hl 0 rfl) ?_
                                  refine lv_if_ne (tgt := 212) hx hb dX8_isLand_207 (by decide) (fun c9 => absurd (by decide) c9) (fun _ => ?_)
                                  refine lv_iconst (v := 0) hx hb dX8_isLand_210 (by decide) ?_
                                  exact wr_z (v := 0) hx hb hr hlocks hS (v64_0, v64_1, v64_2, v64_3, v64_4) (by exact ⟨Or.inr (⟨rfl, show (tpA (tbr tbf le.toInt) le.toInt fu.toInt pp.toInt).1.1 = 1 ∧ (tpA (tbr tbf le.toInt) le.toInt fu.toInt pp.toInt).1.2.1 = v64_0.toInt ∧ (tpA (tbr tbf le.toInt) le.toInt fu.toInt pp.toInt).1.2.2.1 = v64_2.toInt from tfa_1 (tpq_fb q0_c76 (tpq_W (fun p hp => tbr_hi hp) (by omega) (by omega) (by omega) (by omega) (by omega)) f_64)⟩), show 0 ≤ (v64_1 : Int32).toInt ∧ (v64_1 : Int32).toInt ≤ 120 from by omega, show 0 ≤ (v64_2 : Int32).toInt ∧ (v64_2 : Int32).toInt ≤ 120 from by omega, c64_4⟩) (hP.sub [0, 1, 2] rfl) (hD.sub [0, 1, 2] (by decide) rfl) dX8_isLand_211 rfl
                          · have f_58 : r_54.toInt = 114 := zi_eq c_58
                            exfalso; omega
                        · have f_57 : t1_c76.toInt = 0 := zi_eq c_57
                          refine lv_aload_n hx hb dX8_isLand_124 rfl (lv_at hl 3 rfl) ?_
                          refine lv_iload_n hx hb dX8_isLand_125 rfl (lv_at hl 1 rfl) ?_
                          have k_65 := (p_X8_isVillage l D cI cB cQ H.size h sl zs ln ir tk tb tr fz na su le g0_c76 g1_c76 g2_c76 tc g3_c76 r_54 g4_c76 tbf v0 ha_g4_c76 (by omega) (by omega) (by omega) (by omega) (by omega) (by omega))
                          refine wc_i (WC := [(h, .inr (7, [.ref sl, .int na, .ref zs, .ref ln, .ref ir, .ref tk, .int su, .int le, .ref tb, .int g0_c76, .int g1_c76, .int g2_c76, .ref tr, .int tc, .ref fz, .int g3_c76])), (sl, .inl (cI, 1653, .inl g4_c76)), (tb, .inl (cB, 120, .inl tbf))]) (WR := []) (va_runV (As := [.int r_54]) (rest := []) ⟨hx, hb, hml, hown, hts⟩ k_65 (cwV 1 hts gX8_isLand_X8_isVillage rfl rfl rfl (by decide +kernel) ⟨Nat.le_of_ble_eq_true rfl, Nat.le_of_ble_eq_true rfl⟩) (wp_V hP hK hD hN [1, 0, 2] (by decide) rfl (ci := 7) rfl rfl) rfl rfl hl.1 rfl (lv_room (Nat.le_of_ble_eq_true rfl)) dX8_isLand_126 ⟨Nat.le_of_ble_eq_true rfl, Nat.le_of_ble_eq_true rfl⟩) hP hD hS hA [1, 0, 2] [] rfl rfl (by decide) (by decide) (fun r_65 => pe5 (fun v65_0 v65_1 v65_2 v65_3 v65_4 H locs hw_65 hP hD hS => ?_))
                          clear k_65
                          have hP : va_P D kl [(h, .inr (7, [.ref sl, .int na, .ref zs, .ref ln, .ref ir, .ref tk, .int su, .int le, .ref tb, .int v65_0, .int v65_1, .int v65_2, .ref tr, .int tc, .ref fz, .int v65_3])), (sl, .inl (cI, 1653, .inl v65_4)), (tb, .inl (cB, 120, .inl tbf))] H := hP
                          have hD : va_D A [(h, .inr (7, [.ref sl, .int na, .ref zs, .ref ln, .ref ir, .ref tk, .int su, .int le, .ref tb, .int v65_0, .int v65_1, .int v65_2, .ref tr, .int tc, .ref fz, .int v65_3])), (sl, .inl (cI, 1653, .inl v65_4)), (tb, .inl (cB, 120, .inl tbf))] := hD
                          obtain ⟨c65_0, c65_1, c65_2, c65_3, c65_4⟩ := hw_65
                          have c65_1 : (g1_c76.toInt ≤ v65_1.toInt) := c65_1
                          have c65_2 : 0 ≤ v65_1.toInt ∧ v65_1.toInt ≤ 120 := c65_2
                          have c65_3 : 0 ≤ v65_2.toInt ∧ v65_2.toInt ≤ 120 := c65_3
                          have c65_4 : SI v65_4 v0 := c65_4
                          rcases c65_0 with ⟨e_65, f_65⟩ | ⟨e_65, f_65⟩
                          · subst e_65
                            have f_65 : ((((0, v65_0.toInt, v65_2.toInt, v65_1.toInt) : TPS), ur v65_4) : TPT) = tpV (tbr tbf le.toInt) ((0, g0_c76.toInt, g2_c76.toInt, g1_c76.toInt), ur g4_c76) ∧ g1_c76.toInt < v65_1.toInt ∧ (ur v65_4).1 = (ur g4_c76).1 + 1 ∧ (ur v65_4).2.1 = (ur g4_c76).2.1 := f_65
                            refine lv_istore (lv' := [(4, .int 1), (3, .int r_55), (2, .int r_54), (1, .int t1_c76), (0, .ref h)]) hx hb dX8_isLand_129 hl (by decide) rfl (fun ls hl => ?_)
                            refine lv_goto (tgt := 205) hx hb dX8_isLand_131 (by decide) ?_
                            refine lv_iload hx hb dX8_isLand_205 (lv_at hl 0 rfl) ?_
                            refine lv_if_ne (tgt := 212) hx hb dX8_isLand_207 (by decide) (fun _ => ?_) (fun c9 => absurd c9 (by decide))
                            refine lv_goto (tgt := 76) hx hb dX8_isLand_212 (by decide) ?_
                            exact ih76 t1_c76 v65_0 v65_1 v65_2 v65_3 v65_4 _ _ _ (show 0 ≤ t1_c76.toInt ∧ t1_c76.toInt ≤ 2 from by omega) (show 0 ≤ v65_1.toInt ∧ v65_1.toInt ≤ 120 from by omega) (show 0 ≤ v65_2.toInt ∧ v65_2.toInt ≤ 120 from by omega) c65_4 (show t1_c76.toInt = 0 ∨ 1 ≤ (ur v65_4).1 from by omega) (show 0 ≤ (ur v65_4).1 from by omega) (show 0 ≤ (ur v65_4).2.1 ∧ (ur v65_4).2.1 ≤ 12 from by omega) (tpq_back q0_c76 (tpq_V (fun p hp => tbr_hi hp) (by omega) (by omega) (by omega) (by omega) (by omega)) f_65.1 (by first | omega | decide)) (by omega) (hP.sub [1, 0, 2] rfl) (hD.sub [1, 0, 2] (by decide) rfl) hS (lv_sub hl [3, 4] rfl)
                          · subst e_65
                            have f_65 : tfa (tpV (tbr tbf le.toInt) ((0, g0_c76.toInt, g2_c76.toInt, g1_c76.toInt), ur g4_c76)).1 v65_0.toInt v65_2.toInt := f_65
                            refine lv_istore (lv' := [(4, .int 0), (3, .int r_55), (2, .int r_54), (1, .int t1_c76), (0, .ref h)]) hx hb dX8_isLand_129 hl (by decide) rfl (fun ls hl => ?_)
                            refine lv_goto (tgt := 205) hx hb dX8_isLand_131 (by decide) ?_
                            refine lv_iload hx hb dX8_isLand_205 (lv_at hl 0 rfl) ?_
                            refine lv_if_ne (tgt := 212) hx hb dX8_isLand_207 (by decide) (fun c9 => absurd (by decide) c9) (fun _ => ?_)
                            refine lv_iconst (v := 0) hx hb dX8_isLand_210 (by decide) ?_
                            exact wr_z (v := 0) hx hb hr hlocks hS (v65_0, v65_1, v65_2, v65_3, v65_4) (by exact ⟨Or.inr (⟨rfl, show (tpA (tbr tbf le.toInt) le.toInt fu.toInt pp.toInt).1.1 = 1 ∧ (tpA (tbr tbf le.toInt) le.toInt fu.toInt pp.toInt).1.2.1 = v65_0.toInt ∧ (tpA (tbr tbf le.toInt) le.toInt fu.toInt pp.toInt).1.2.2.1 = v65_2.toInt from tfa_1 (tpq_fb q0_c76 (tpq_V (fun p hp => tbr_hi hp) (by omega) (by omega) (by omega) (by omega) (by omega)) f_65)⟩), show 0 ≤ (v65_1 : Int32).toInt ∧ (v65_1 : Int32).toInt ≤ 120 from by omega, show 0 ≤ (v65_2 : Int32).toInt ∧ (v65_2 : Int32).toInt ≤ 120 from by omega, c65_4⟩) (hP.sub [0, 1, 2] rfl) (hD.sub [0, 1, 2] (by decide) rfl) dX8_isLand_211 rfl
                      · have f_56 : ¬ r_54.toInt = 103 := zi_ne c_56
                        refine lv_iload_n hx hb dX8_isLand_114 rfl (lv_at hl 1 rfl) ?_
                        refine lv_bipush (v := 99) hx hb dX8_isLand_115 (by decide) ?_
                        refine lv_icmp_ne (tgt := 134) hx hb dX8_isLand_117 (by decide) (fun c_66 => ?_) (fun c_66 => ?_)
                        · have f_66 : ¬ r_54.toInt = 99 := zi_ne c_66
                          refine lv_iload_n hx hb dX8_isLand_134 rfl (lv_at hl 1 rfl) ?_
                          refine lv_bipush (v := 114) hx hb dX8_isLand_135 (by decide) ?_
                          refine lv_icmp_ne (tgt := 167) hx hb dX8_isLand_137 (by decide) (fun c_67 => ?_) (fun c_67 => ?_)
                          · have f_67 : ¬ r_54.toInt = 114 := zi_ne c_67
                            refine lv_iload_n hx hb dX8_isLand_167 rfl (lv_at hl 0 rfl) ?_
                            refine lv_if_le (tgt := 194) hx hb dX8_isLand_168 (by decide) (fun c_68 => ?_) (fun c_68 => ?_)
                            · have f_68 : r_55.toInt ≤ 0 := zi_le c_68
                              refine lv_aload_n hx hb dX8_isLand_194 rfl (lv_at hl 3 rfl) ?_
                              refine lv_iconst (v := 1) hx hb dX8_isLand_195 (by decide) ?_
                              refine lv_aload_n hx hb dX8_isLand_196 rfl (lv_at hl 3 rfl) ?_
                              refine va_get (D := D) (ci := 7) (v := .int g1_c76) (C := RX8) (T := TX8) (N := 16) hx hb hts (fun _ h => List.mem_cons_of_mem _ (List.mem_append_right _ h)) hown hK hP 1 rfl rfl 10 (by decide) (hts (.fieldLink RX8 62 "WinterWalkModel" "at" "I") (List.mem_of_getElem? (i := 1) rfl)) (fun _ h9 => h9) rfl dX8_isLand_197 ?_
                              have k_69 := (p_X8_fails l D cI cB cQ H.size h sl zs ln ir tk tb tr fz na su le g0_c76 g1_c76 g2_c76 tc g3_c76 1 g1_c76 (by omega) (by omega))
                              refine wc_i (WC := [(h, .inr (7, [.ref sl, .int na, .ref zs, .ref ln, .ref ir, .ref tk, .int su, .int le, .ref tb, .int g0_c76, .int g1_c76, .int g2_c76, .ref tr, .int tc, .ref fz, .int g3_c76]))]) (WR := [(sl, .inl (cI, 1653, .inl g4_c76)), (tb, .inl (cB, 120, .inl tbf))]) (va_runV (As := [.int 1, .int g1_c76]) (rest := []) ⟨hx, hb, hml, hown, hts⟩ k_69 (cwV 2 hts gX8_isLand_X8_fails rfl rfl rfl (by decide +kernel) ⟨Nat.le_of_ble_eq_true rfl, Nat.le_of_ble_eq_true rfl⟩) (wp_V hP hK hD hN [1] (by decide) rfl (ci := 7) rfl rfl) rfl rfl hl.1 rfl (lv_room (Nat.le_of_ble_eq_true rfl)) dX8_isLand_200 ⟨Nat.le_of_ble_eq_true rfl, Nat.le_of_ble_eq_true rfl⟩) hP hD hS hA [1] [0, 2] rfl rfl (by decide) (by decide) (fun r_69 => pe2 (fun v69_0 v69_1 H locs hw_69 hP hD hS => ?_))
                              clear k_69
                              have hP : va_P D kl [(sl, .inl (cI, 1653, .inl g4_c76)), (tb, .inl (cB, 120, .inl tbf)), (h, .inr (7, [.ref sl, .int na, .ref zs, .ref ln, .ref ir, .ref tk, .int su, .int le, .ref tb, .int v69_0, .int g1_c76, .int v69_1, .ref tr, .int tc, .ref fz, .int g3_c76]))] H := hP
                              have hD : va_D A [(sl, .inl (cI, 1653, .inl g4_c76)), (tb, .inl (cB, 120, .inl tbf)), (h, .inr (7, [.ref sl, .int na, .ref zs, .ref ln, .ref ir, .ref tk, .int su, .int le, .ref tb, .int v69_0, .int g1_c76, .int v69_1, .ref tr, .int tc, .ref fz, .int g3_c76]))] := hD
                              obtain ⟨c69_0, c69_1, c69_2⟩ := hw_69
                              have c69_1 : v69_0.toInt = (1 : Int) ∧ v69_1.toInt = g1_c76.toInt := c69_1
                              have c69_2 : 0 ≤ v69_1.toInt ∧ v69_1.toInt ≤ 120 := c69_2
                              have e_69 := c69_0
                              · subst e_69
                                refine lv_istore (lv' := [(4, .int 0), (3, .int r_55), (2, .int r_54), (1, .int t1_c76), (0, .ref h)]) hx hb dX8_isLand_203 hl (by decide) rfl (fun ls hl => ?_)
                                refine lv_iload hx hb dX8_isLand_205 (lv_at hl 0 rfl) ?_
                                refine lv_if_ne (tgt := 212) hx hb dX8_isLand_207 (by decide) (fun c9 => absurd (by decide) c9) (fun _ => ?_)
                                refine lv_iconst (v := 0) hx hb dX8_isLand_210 (by decide) ?_
                                exact wr_z (v := 0) hx hb hr hlocks hS (v69_0, g1_c76, v69_1, g3_c76, g4_c76) (by exact ⟨Or.inr (⟨rfl, show (tpA (tbr tbf le.toInt) le.toInt fu.toInt pp.toInt).1.1 = 1 ∧ (tpA (tbr tbf le.toInt) le.toInt fu.toInt pp.toInt).1.2.1 = v69_0.toInt ∧ (tpA (tbr tbf le.toInt) le.toInt fu.toInt pp.toInt).1.2.2.1 = v69_1.toInt from tfa_1 (by rw [← q0_c76]; exact tpq_x (by omega) (by omega) (by omega) (by omega) (by omega) (by omega) (by omega) (by omega) (by omega))⟩), show 0 ≤ (g1_c76 : Int32).toInt ∧ (g1_c76 : Int32).toInt ≤ 120 from by omega, show 0 ≤ (v69_1 : Int32).toInt ∧ (v69_1 : Int32).toInt ≤ 120 from by omega, ha_g4_c76⟩) (hP.sub [2, 0, 1] rfl) (hD.sub [2, 0, 1] (by decide) rfl) dX8_isLand_211 rfl
                            · have f_68 : ¬ r_55.toInt ≤ 0 := zi_nle c_68
                              refine lv_aload_n hx hb dX8_isLand_171 rfl (lv_at hl 3 rfl) ?_
                              refine va_get (D := D) (ci := 7) (v := .ref sl) (C := RX8) (T := TX8) (N := 16) hx hb hts (fun _ h => List.mem_cons_of_mem _ (List.mem_append_right _ h)) hown hK hP 1 rfl rfl 0 (by decide) (hts (.fieldLink RX8 7 "WinterWalkModel" "slot" "[I") (List.mem_of_getElem? (i := 2) rfl)) (fun _ h9 => h9) rfl dX8_isLand_172 ?_
                              refine lv_sipush (v := 1597) hx hb dX8_isLand_175 (by decide) ?_
                              refine va_iald hx hb hK hP 0 0 rfl rfl (zi_in (by decide) (by decide)) dX8_isLand_178 ?_
                              refine lv_topi (fun x_70 ex_70 => ?_)
                              have f_70 : 0 ≤ x_70.toInt ∧ x_70.toInt ≤ 8 := by rw [ex_70]; exact si_v ha_g4_c76 (s := 28) (by decide) (by omega)
                              have u_70 : x_70.toInt = (ur g4_c76).1 := by rw [ex_70]; exact ux_v
                              refine lv_if_le (tgt := 194) hx hb dX8_isLand_179 (by decide) (fun c_71 => ?_) (fun c_71 => ?_)
                              · have f_71 : (ur g4_c76).1 ≤ 0 := by
                                  have h8 := zi_le c_71
                                  try rw [u_70] at h8
                                  exact h8
                                refine lv_aload_n hx hb dX8_isLand_194 rfl (lv_at hl 3 rfl) ?_
                                refine lv_iconst (v := 1) hx hb dX8_isLand_195 (by decide) ?_
                                refine lv_aload_n hx hb dX8_isLand_196 rfl (lv_at hl 3 rfl) ?_
                                refine va_get (D := D) (ci := 7) (v := .int g1_c76) (C := RX8) (T := TX8) (N := 16) hx hb hts (fun _ h => List.mem_cons_of_mem _ (List.mem_append_right _ h)) hown hK hP 1 rfl rfl 10 (by decide) (hts (.fieldLink RX8 62 "WinterWalkModel" "at" "I") (List.mem_of_getElem? (i := 1) rfl)) (fun _ h9 => h9) rfl dX8_isLand_197 ?_
                                have k_72 := (p_X8_fails l D cI cB cQ H.size h sl zs ln ir tk tb tr fz na su le g0_c76 g1_c76 g2_c76 tc g3_c76 1 g1_c76 (by omega) (by omega))
                                refine wc_i (WC := [(h, .inr (7, [.ref sl, .int na, .ref zs, .ref ln, .ref ir, .ref tk, .int su, .int le, .ref tb, .int g0_c76, .int g1_c76, .int g2_c76, .ref tr, .int tc, .ref fz, .int g3_c76]))]) (WR := [(sl, .inl (cI, 1653, .inl g4_c76)), (tb, .inl (cB, 120, .inl tbf))]) (va_runV (As := [.int 1, .int g1_c76]) (rest := []) ⟨hx, hb, hml, hown, hts⟩ k_72 (cwV 2 hts gX8_isLand_X8_fails rfl rfl rfl (by decide +kernel) ⟨Nat.le_of_ble_eq_true rfl, Nat.le_of_ble_eq_true rfl⟩) (wp_V hP hK hD hN [1] (by decide) rfl (ci := 7) rfl rfl) rfl rfl hl.1 rfl (lv_room (Nat.le_of_ble_eq_true rfl)) dX8_isLand_200 ⟨Nat.le_of_ble_eq_true rfl, Nat.le_of_ble_eq_true rfl⟩) hP hD hS hA [1] [0, 2] rfl rfl (by decide) (by decide) (fun r_72 => pe2 (fun v72_0 v72_1 H locs hw_72 hP hD hS => ?_))
                                clear k_72
                                have hP : va_P D kl [(sl, .inl (cI, 1653, .inl g4_c76)), (tb, .inl (cB, 120, .inl tbf)), (h, .inr (7, [.ref sl, .int na, .ref zs, .ref ln, .ref ir, .ref tk, .int su, .int le, .ref tb, .int v72_0, .int g1_c76, .int v72_1, .ref tr, .int tc, .ref fz, .int g3_c76]))] H := hP
                                have hD : va_D A [(sl, .inl (cI, 1653, .inl g4_c76)), (tb, .inl (cB, 120, .inl tbf)), (h, .inr (7, [.ref sl, .int na, .ref zs, .ref ln, .ref ir, .ref tk, .int su, .int le, .ref tb, .int v72_0, .int g1_c76, .int v72_1, .ref tr, .int tc, .ref fz, .int g3_c76]))] := hD
                                obtain ⟨c72_0, c72_1, c72_2⟩ := hw_72
                                have c72_1 : v72_0.toInt = (1 : Int) ∧ v72_1.toInt = g1_c76.toInt := c72_1
                                have c72_2 : 0 ≤ v72_1.toInt ∧ v72_1.toInt ≤ 120 := c72_2
                                have e_72 := c72_0
                                · subst e_72
                                  refine lv_istore (lv' := [(4, .int 0), (3, .int r_55), (2, .int r_54), (1, .int t1_c76), (0, .ref h)]) hx hb dX8_isLand_203 hl (by decide) rfl (fun ls hl => ?_)
                                  refine lv_iload hx hb dX8_isLand_205 (lv_at hl 0 rfl) ?_
                                  refine lv_if_ne (tgt := 212) hx hb dX8_isLand_207 (by decide) (fun c9 => absurd (by decide) c9) (fun _ => ?_)
                                  refine lv_iconst (v := 0) hx hb dX8_isLand_210 (by decide) ?_
                                  exact wr_z (v := 0) hx hb hr hlocks hS (v72_0, g1_c76, v72_1, g3_c76, g4_c76) (by exact ⟨Or.inr (⟨rfl, show (tpA (tbr tbf le.toInt) le.toInt fu.toInt pp.toInt).1.1 = 1 ∧ (tpA (tbr tbf le.toInt) le.toInt fu.toInt pp.toInt).1.2.1 = v72_0.toInt ∧ (tpA (tbr tbf le.toInt) le.toInt fu.toInt pp.toInt).1.2.2.1 = v72_1.toInt from tfa_1 (by rw [← q0_c76]; exact tpq_x (by omega) (by omega) (by omega) (by omega) (by omega) (by omega) (by omega) (by omega) (by omega))⟩), show 0 ≤ (g1_c76 : Int32).toInt ∧ (g1_c76 : Int32).toInt ≤ 120 from by omega, show 0 ≤ (v72_1 : Int32).toInt ∧ (v72_1 : Int32).toInt ≤ 120 from by omega, ha_g4_c76⟩) (hP.sub [2, 0, 1] rfl) (hD.sub [2, 0, 1] (by decide) rfl) dX8_isLand_211 rfl
                              · have f_71 : ¬ (ur g4_c76).1 ≤ 0 := by
                                  have h8 := zi_nle c_71
                                  try rw [u_70] at h8
                                  exact h8
                                refine lv_iconst (v := 2) hx hb dX8_isLand_182 (by decide) ?_
                                refine lv_istore_n (lv' := [(1, .int 2), (3, .int r_55), (2, .int r_54), (0, .ref h)]) hx hb dX8_isLand_183 rfl hl (by decide) rfl (fun ls hl => ?_)
                                refine lv_aload_n hx hb dX8_isLand_184 rfl (lv_at hl 3 rfl) ?_
                                refine lv_iload_n hx hb dX8_isLand_185 rfl (lv_at hl 2 rfl) ?_
                                have k_73 := (p_X8_isWalker l D cI cB cQ H.size h sl zs ln ir tk tb tr fz na su le g0_c76 g1_c76 g2_c76 tc g3_c76 r_54 g4_c76 tbf v0 ha_g4_c76 (by omega) (by omega) (by omega) (by omega) (by omega) (by omega) (by omega))
                                refine wc_i (WC := [(h, .inr (7, [.ref sl, .int na, .ref zs, .ref ln, .ref ir, .ref tk, .int su, .int le, .ref tb, .int g0_c76, .int g1_c76, .int g2_c76, .ref tr, .int tc, .ref fz, .int g3_c76])), (sl, .inl (cI, 1653, .inl g4_c76)), (tb, .inl (cB, 120, .inl tbf))]) (WR := []) (va_runV (As := [.int r_54]) (rest := []) ⟨hx, hb, hml, hown, hts⟩ k_73 (cwV 1 hts gX8_isLand_X8_isWalker rfl rfl rfl (by decide +kernel) ⟨Nat.le_of_ble_eq_true rfl, Nat.le_of_ble_eq_true rfl⟩) (wp_V hP hK hD hN [1, 0, 2] (by decide) rfl (ci := 7) rfl rfl) rfl rfl hl.1 rfl (lv_room (Nat.le_of_ble_eq_true rfl)) dX8_isLand_186 ⟨Nat.le_of_ble_eq_true rfl, Nat.le_of_ble_eq_true rfl⟩) hP hD hS hA [1, 0, 2] [] rfl rfl (by decide) (by decide) (fun r_73 => pe5 (fun v73_0 v73_1 v73_2 v73_3 v73_4 H locs hw_73 hP hD hS => ?_))
                                clear k_73
                                have hP : va_P D kl [(h, .inr (7, [.ref sl, .int na, .ref zs, .ref ln, .ref ir, .ref tk, .int su, .int le, .ref tb, .int v73_0, .int v73_1, .int v73_2, .ref tr, .int tc, .ref fz, .int v73_3])), (sl, .inl (cI, 1653, .inl v73_4)), (tb, .inl (cB, 120, .inl tbf))] H := hP
                                have hD : va_D A [(h, .inr (7, [.ref sl, .int na, .ref zs, .ref ln, .ref ir, .ref tk, .int su, .int le, .ref tb, .int v73_0, .int v73_1, .int v73_2, .ref tr, .int tc, .ref fz, .int v73_3])), (sl, .inl (cI, 1653, .inl v73_4)), (tb, .inl (cB, 120, .inl tbf))] := hD
                                obtain ⟨c73_0, c73_1, c73_2, c73_3, c73_4⟩ := hw_73
                                have c73_1 : (g1_c76.toInt ≤ v73_1.toInt) := c73_1
                                have c73_2 : 0 ≤ v73_1.toInt ∧ v73_1.toInt ≤ 120 := c73_2
                                have c73_3 : 0 ≤ v73_2.toInt ∧ v73_2.toInt ≤ 120 := c73_3
                                have c73_4 : SI v73_4 v0 := c73_4
                                rcases c73_0 with ⟨e_73, f_73⟩ | ⟨e_73, f_73⟩
                                · subst e_73
                                  have f_73 : ((((0, v73_0.toInt, v73_2.toInt, v73_1.toInt) : TPS), ur v73_4) : TPT) = tpW (tbr tbf le.toInt) ((0, g0_c76.toInt, g2_c76.toInt, g1_c76.toInt), ur g4_c76) ∧ g1_c76.toInt < v73_1.toInt ∧ (ur v73_4).1 = (ur g4_c76).1 ∧ (ur v73_4).2.1 = (ur g4_c76).2.1 := f_73
                                  refine lv_istore (lv' := [(4, .int 1), (1, .int 2), (3, .int r_55), (2, .int r_54), (0, .ref h)]) hx hb dX8_isLand_189 hl (by decide) rfl (fun ls hl => ?_)
                                  refine lv_goto (tgt := 205) hx hb dX8_isLand_191 (by decide) ?_
                                  refine lv_iload hx hb dX8_isLand_205 (lv_at hl 0 rfl) ?_
                                  refine lv_if_ne (tgt := 212) hx hb dX8_isLand_207 (by decide) (fun _ => ?_) (fun c9 => absurd c9 (by decide))
                                  refine lv_goto (tgt := 76) hx hb dX8_isLand_212 (by decide) ?_
                                  exact ih76 2 v73_0 v73_1 v73_2 v73_3 v73_4 _ _ _ (show 0 ≤ 2 ∧ 2 ≤ 2 from by omega) (show 0 ≤ v73_1.toInt ∧ v73_1.toInt ≤ 120 from by omega) (show 0 ≤ v73_2.toInt ∧ v73_2.toInt ≤ 120 from by omega) c73_4 (show 2 = 0 ∨ 1 ≤ (ur v73_4).1 from by omega) (show 0 ≤ (ur v73_4).1 from by omega) (show 0 ≤ (ur v73_4).2.1 ∧ (ur v73_4).2.1 ≤ 12 from by omega) (tpq_back q0_c76 (tpq_W (fun p hp => tbr_hi hp) (by omega) (by omega) (by omega) (by omega) (by omega)) f_73.1 (by first | omega | decide)) (by omega) (hP.sub [1, 0, 2] rfl) (hD.sub [1, 0, 2] (by decide) rfl) hS (lv_sub hl [1, 4] rfl)
                                · subst e_73
                                  have f_73 : tfa (tpW (tbr tbf le.toInt) ((0, g0_c76.toInt, g2_c76.toInt, g1_c76.toInt), ur g4_c76)).1 v73_0.toInt v73_2.toInt := f_73
                                  refine lv_istore (lv' := [(4, .int 0), (1, .int 2), (3, .int r_55), (2, .int r_54), (0, .ref h)]) hx hb dX8_isLand_189 hl (by decide) rfl (fun ls hl => ?_)
                                  refine lv_goto (tgt := 205) hx hb dX8_isLand_191 (by decide) ?_
                                  refine lv_iload hx hb dX8_isLand_205 (lv_at hl 0 rfl) ?_
                                  refine lv_if_ne (tgt := 212) hx hb dX8_isLand_207 (by decide) (fun c9 => absurd (by decide) c9) (fun _ => ?_)
                                  refine lv_iconst (v := 0) hx hb dX8_isLand_210 (by decide) ?_
                                  exact wr_z (v := 0) hx hb hr hlocks hS (v73_0, v73_1, v73_2, v73_3, v73_4) (by exact ⟨Or.inr (⟨rfl, show (tpA (tbr tbf le.toInt) le.toInt fu.toInt pp.toInt).1.1 = 1 ∧ (tpA (tbr tbf le.toInt) le.toInt fu.toInt pp.toInt).1.2.1 = v73_0.toInt ∧ (tpA (tbr tbf le.toInt) le.toInt fu.toInt pp.toInt).1.2.2.1 = v73_2.toInt from tfa_1 (tpq_fb q0_c76 (tpq_W (fun p hp => tbr_hi hp) (by omega) (by omega) (by omega) (by omega) (by omega)) f_73)⟩), show 0 ≤ (v73_1 : Int32).toInt ∧ (v73_1 : Int32).toInt ≤ 120 from by omega, show 0 ≤ (v73_2 : Int32).toInt ∧ (v73_2 : Int32).toInt ≤ 120 from by omega, c73_4⟩) (hP.sub [0, 1, 2] rfl) (hD.sub [0, 1, 2] (by decide) rfl) dX8_isLand_211 rfl
                          · have f_67 : r_54.toInt = 114 := zi_eq c_67
                            refine lv_iload_n hx hb dX8_isLand_140 rfl (lv_at hl 2 rfl) ?_
                            refine lv_iconst (v := 2) hx hb dX8_isLand_141 (by decide) ?_
                            refine lv_icmp_ge (tgt := 167) hx hb dX8_isLand_142 (by decide) (fun c_74 => ?_) (fun c_74 => ?_)
                            · have f_74 : 2 ≤ t1_c76.toInt := zi_le c_74
                              refine lv_iload_n hx hb dX8_isLand_167 rfl (lv_at hl 0 rfl) ?_
                              refine lv_if_le (tgt := 194) hx hb dX8_isLand_168 (by decide) (fun c_75 => ?_) (fun c_75 => ?_)
                              · have f_75 : r_55.toInt ≤ 0 := zi_le c_75
                                refine lv_aload_n hx hb dX8_isLand_194 rfl (lv_at hl 3 rfl) ?_
                                refine lv_iconst (v := 1) hx hb dX8_isLand_195 (by decide) ?_
                                refine lv_aload_n hx hb dX8_isLand_196 rfl (lv_at hl 3 rfl) ?_
                                refine va_get (D := D) (ci := 7) (v := .int g1_c76) (C := RX8) (T := TX8) (N := 16) hx hb hts (fun _ h => List.mem_cons_of_mem _ (List.mem_append_right _ h)) hown hK hP 1 rfl rfl 10 (by decide) (hts (.fieldLink RX8 62 "WinterWalkModel" "at" "I") (List.mem_of_getElem? (i := 1) rfl)) (fun _ h9 => h9) rfl dX8_isLand_197 ?_
                                have k_76 := (p_X8_fails l D cI cB cQ H.size h sl zs ln ir tk tb tr fz na su le g0_c76 g1_c76 g2_c76 tc g3_c76 1 g1_c76 (by omega) (by omega))
                                refine wc_i (WC := [(h, .inr (7, [.ref sl, .int na, .ref zs, .ref ln, .ref ir, .ref tk, .int su, .int le, .ref tb, .int g0_c76, .int g1_c76, .int g2_c76, .ref tr, .int tc, .ref fz, .int g3_c76]))]) (WR := [(sl, .inl (cI, 1653, .inl g4_c76)), (tb, .inl (cB, 120, .inl tbf))]) (va_runV (As := [.int 1, .int g1_c76]) (rest := []) ⟨hx, hb, hml, hown, hts⟩ k_76 (cwV 2 hts gX8_isLand_X8_fails rfl rfl rfl (by decide +kernel) ⟨Nat.le_of_ble_eq_true rfl, Nat.le_of_ble_eq_true rfl⟩) (wp_V hP hK hD hN [1] (by decide) rfl (ci := 7) rfl rfl) rfl rfl hl.1 rfl (lv_room (Nat.le_of_ble_eq_true rfl)) dX8_isLand_200 ⟨Nat.le_of_ble_eq_true rfl, Nat.le_of_ble_eq_true rfl⟩) hP hD hS hA [1] [0, 2] rfl rfl (by decide) (by decide) (fun r_76 => pe2 (fun v76_0 v76_1 H locs hw_76 hP hD hS => ?_))
                                clear k_76
                                have hP : va_P D kl [(sl, .inl (cI, 1653, .inl g4_c76)), (tb, .inl (cB, 120, .inl tbf)), (h, .inr (7, [.ref sl, .int na, .ref zs, .ref ln, .ref ir, .ref tk, .int su, .int le, .ref tb, .int v76_0, .int g1_c76, .int v76_1, .ref tr, .int tc, .ref fz, .int g3_c76]))] H := hP
                                have hD : va_D A [(sl, .inl (cI, 1653, .inl g4_c76)), (tb, .inl (cB, 120, .inl tbf)), (h, .inr (7, [.ref sl, .int na, .ref zs, .ref ln, .ref ir, .ref tk, .int su, .int le, .ref tb, .int v76_0, .int g1_c76, .int v76_1, .ref tr, .int tc, .ref fz, .int g3_c76]))] := hD
                                obtain ⟨c76_0, c76_1, c76_2⟩ := hw_76
                                have c76_1 : v76_0.toInt = (1 : Int) ∧ v76_1.toInt = g1_c76.toInt := c76_1
                                have c76_2 : 0 ≤ v76_1.toInt ∧ v76_1.toInt ≤ 120 := c76_2
                                have e_76 := c76_0
                                · subst e_76
                                  refine lv_istore (lv' := [(4, .int 0), (3, .int r_55), (2, .int r_54), (1, .int t1_c76), (0, .ref h)]) hx hb dX8_isLand_203 hl (by decide) rfl (fun ls hl => ?_)
                                  refine lv_iload hx hb dX8_isLand_205 (lv_at hl 0 rfl) ?_
                                  refine lv_if_ne (tgt := 212) hx hb dX8_isLand_207 (by decide) (fun c9 => absurd (by decide) c9) (fun _ => ?_)
                                  refine lv_iconst (v := 0) hx hb dX8_isLand_210 (by decide) ?_
                                  exact wr_z (v := 0) hx hb hr hlocks hS (v76_0, g1_c76, v76_1, g3_c76, g4_c76) (by exact ⟨Or.inr (⟨rfl, show (tpA (tbr tbf le.toInt) le.toInt fu.toInt pp.toInt).1.1 = 1 ∧ (tpA (tbr tbf le.toInt) le.toInt fu.toInt pp.toInt).1.2.1 = v76_0.toInt ∧ (tpA (tbr tbf le.toInt) le.toInt fu.toInt pp.toInt).1.2.2.1 = v76_1.toInt from tfa_1 (by rw [← q0_c76]; exact tpq_x (by omega) (by omega) (by omega) (by omega) (by omega) (by omega) (by omega) (by omega) (by omega))⟩), show 0 ≤ (g1_c76 : Int32).toInt ∧ (g1_c76 : Int32).toInt ≤ 120 from by omega, show 0 ≤ (v76_1 : Int32).toInt ∧ (v76_1 : Int32).toInt ≤ 120 from by omega, ha_g4_c76⟩) (hP.sub [2, 0, 1] rfl) (hD.sub [2, 0, 1] (by decide) rfl) dX8_isLand_211 rfl
                              · have f_75 : ¬ r_55.toInt ≤ 0 := zi_nle c_75
                                refine lv_aload_n hx hb dX8_isLand_171 rfl (lv_at hl 3 rfl) ?_
                                refine va_get (D := D) (ci := 7) (v := .ref sl) (C := RX8) (T := TX8) (N := 16) hx hb hts (fun _ h => List.mem_cons_of_mem _ (List.mem_append_right _ h)) hown hK hP 1 rfl rfl 0 (by decide) (hts (.fieldLink RX8 7 "WinterWalkModel" "slot" "[I") (List.mem_of_getElem? (i := 2) rfl)) (fun _ h9 => h9) rfl dX8_isLand_172 ?_
                                refine lv_sipush (v := 1597) hx hb dX8_isLand_175 (by decide) ?_
                                refine va_iald hx hb hK hP 0 0 rfl rfl (zi_in (by decide) (by decide)) dX8_isLand_178 ?_
                                refine lv_topi (fun x_77 ex_77 => ?_)
                                have f_77 : 0 ≤ x_77.toInt ∧ x_77.toInt ≤ 8 := by rw [ex_77]; exact si_v ha_g4_c76 (s := 28) (by decide) (by omega)
                                have u_77 : x_77.toInt = (ur g4_c76).1 := by rw [ex_77]; exact ux_v
                                refine lv_if_le (tgt := 194) hx hb dX8_isLand_179 (by decide) (fun c_78 => ?_) (fun c_78 => ?_)
                                · have f_78 : (ur g4_c76).1 ≤ 0 := by
                                    have h8 := zi_le c_78
                                    try rw [u_77] at h8
                                    exact h8
                                  refine lv_aload_n hx hb dX8_isLand_194 rfl (lv_at hl 3 rfl) ?_
                                  refine lv_iconst (v := 1) hx hb dX8_isLand_195 (by decide) ?_
                                  refine lv_aload_n hx hb dX8_isLand_196 rfl (lv_at hl 3 rfl) ?_
                                  refine va_get (D := D) (ci := 7) (v := .int g1_c76) (C := RX8) (T := TX8) (N := 16) hx hb hts (fun _ h => List.mem_cons_of_mem _ (List.mem_append_right _ h)) hown hK hP 1 rfl rfl 10 (by decide) (hts (.fieldLink RX8 62 "WinterWalkModel" "at" "I") (List.mem_of_getElem? (i := 1) rfl)) (fun _ h9 => h9) rfl dX8_isLand_197 ?_
                                  have k_79 := (p_X8_fails l D cI cB cQ H.size h sl zs ln ir tk tb tr fz na su le g0_c76 g1_c76 g2_c76 tc g3_c76 1 g1_c76 (by omega) (by omega))
                                  refine wc_i (WC := [(h, .inr (7, [.ref sl, .int na, .ref zs, .ref ln, .ref ir, .ref tk, .int su, .int le, .ref tb, .int g0_c76, .int g1_c76, .int g2_c76, .ref tr, .int tc, .ref fz, .int g3_c76]))]) (WR := [(sl, .inl (cI, 1653, .inl g4_c76)), (tb, .inl (cB, 120, .inl tbf))]) (va_runV (As := [.int 1, .int g1_c76]) (rest := []) ⟨hx, hb, hml, hown, hts⟩ k_79 (cwV 2 hts gX8_isLand_X8_fails rfl rfl rfl (by decide +kernel) ⟨Nat.le_of_ble_eq_true rfl, Nat.le_of_ble_eq_true rfl⟩) (wp_V hP hK hD hN [1] (by decide) rfl (ci := 7) rfl rfl) rfl rfl hl.1 rfl (lv_room (Nat.le_of_ble_eq_true rfl)) dX8_isLand_200 ⟨Nat.le_of_ble_eq_true rfl, Nat.le_of_ble_eq_true rfl⟩) hP hD hS hA [1] [0, 2] rfl rfl (by decide) (by decide) (fun r_79 => pe2 (fun v79_0 v79_1 H locs hw_79 hP hD hS => ?_))
                                  clear k_79
                                  have hP : va_P D kl [(sl, .inl (cI, 1653, .inl g4_c76)), (tb, .inl (cB, 120, .inl tbf)), (h, .inr (7, [.ref sl, .int na, .ref zs, .ref ln, .ref ir, .ref tk, .int su, .int le, .ref tb, .int v79_0, .int g1_c76, .int v79_1, .ref tr, .int tc, .ref fz, .int g3_c76]))] H := hP
                                  have hD : va_D A [(sl, .inl (cI, 1653, .inl g4_c76)), (tb, .inl (cB, 120, .inl tbf)), (h, .inr (7, [.ref sl, .int na, .ref zs, .ref ln, .ref ir, .ref tk, .int su, .int le, .ref tb, .int v79_0, .int g1_c76, .int v79_1, .ref tr, .int tc, .ref fz, .int g3_c76]))] := hD
                                  obtain ⟨c79_0, c79_1, c79_2⟩ := hw_79
                                  have c79_1 : v79_0.toInt = (1 : Int) ∧ v79_1.toInt = g1_c76.toInt := c79_1
                                  have c79_2 : 0 ≤ v79_1.toInt ∧ v79_1.toInt ≤ 120 := c79_2
                                  have e_79 := c79_0
                                  · subst e_79
                                    refine lv_istore (lv' := [(4, .int 0), (3, .int r_55), (2, .int r_54), (1, .int t1_c76), (0, .ref h)]) hx hb dX8_isLand_203 hl (by decide) rfl (fun ls hl => ?_)
                                    refine lv_iload hx hb dX8_isLand_205 (lv_at hl 0 rfl) ?_
                                    refine lv_if_ne (tgt := 212) hx hb dX8_isLand_207 (by decide) (fun c9 => absurd (by decide) c9) (fun _ => ?_)
                                    refine lv_iconst (v := 0) hx hb dX8_isLand_210 (by decide) ?_
                                    exact wr_z (v := 0) hx hb hr hlocks hS (v79_0, g1_c76, v79_1, g3_c76, g4_c76) (by exact ⟨Or.inr (⟨rfl, show (tpA (tbr tbf le.toInt) le.toInt fu.toInt pp.toInt).1.1 = 1 ∧ (tpA (tbr tbf le.toInt) le.toInt fu.toInt pp.toInt).1.2.1 = v79_0.toInt ∧ (tpA (tbr tbf le.toInt) le.toInt fu.toInt pp.toInt).1.2.2.1 = v79_1.toInt from tfa_1 (by rw [← q0_c76]; exact tpq_x (by omega) (by omega) (by omega) (by omega) (by omega) (by omega) (by omega) (by omega) (by omega))⟩), show 0 ≤ (g1_c76 : Int32).toInt ∧ (g1_c76 : Int32).toInt ≤ 120 from by omega, show 0 ≤ (v79_1 : Int32).toInt ∧ (v79_1 : Int32).toInt ≤ 120 from by omega, ha_g4_c76⟩) (hP.sub [2, 0, 1] rfl) (hD.sub [2, 0, 1] (by decide) rfl) dX8_isLand_211 rfl
                                · have f_78 : ¬ (ur g4_c76).1 ≤ 0 := by
                                    have h8 := zi_nle c_78
                                    try rw [u_77] at h8
                                    exact h8
                                  refine lv_iconst (v := 2) hx hb dX8_isLand_182 (by decide) ?_
                                  refine lv_istore_n (lv' := [(1, .int 2), (3, .int r_55), (2, .int r_54), (0, .ref h)]) hx hb dX8_isLand_183 rfl hl (by decide) rfl (fun ls hl => ?_)
                                  refine lv_aload_n hx hb dX8_isLand_184 rfl (lv_at hl 3 rfl) ?_
                                  refine lv_iload_n hx hb dX8_isLand_185 rfl (lv_at hl 2 rfl) ?_
                                  have k_80 := (p_X8_isWalker l D cI cB cQ H.size h sl zs ln ir tk tb tr fz na su le g0_c76 g1_c76 g2_c76 tc g3_c76 r_54 g4_c76 tbf v0 ha_g4_c76 (by omega) (by omega) (by omega) (by omega) (by omega) (by omega) (by omega))
                                  refine wc_i (WC := [(h, .inr (7, [.ref sl, .int na, .ref zs, .ref ln, .ref ir, .ref tk, .int su, .int le, .ref tb, .int g0_c76, .int g1_c76, .int g2_c76, .ref tr, .int tc, .ref fz, .int g3_c76])), (sl, .inl (cI, 1653, .inl g4_c76)), (tb, .inl (cB, 120, .inl tbf))]) (WR := []) (va_runV (As := [.int r_54]) (rest := []) ⟨hx, hb, hml, hown, hts⟩ k_80 (cwV 1 hts gX8_isLand_X8_isWalker rfl rfl rfl (by decide +kernel) ⟨Nat.le_of_ble_eq_true rfl, Nat.le_of_ble_eq_true rfl⟩) (wp_V hP hK hD hN [1, 0, 2] (by decide) rfl (ci := 7) rfl rfl) rfl rfl hl.1 rfl (lv_room (Nat.le_of_ble_eq_true rfl)) dX8_isLand_186 ⟨Nat.le_of_ble_eq_true rfl, Nat.le_of_ble_eq_true rfl⟩) hP hD hS hA [1, 0, 2] [] rfl rfl (by decide) (by decide) (fun r_80 => pe5 (fun v80_0 v80_1 v80_2 v80_3 v80_4 H locs hw_80 hP hD hS => ?_))
                                  clear k_80
                                  have hP : va_P D kl [(h, .inr (7, [.ref sl, .int na, .ref zs, .ref ln, .ref ir, .ref tk, .int su, .int le, .ref tb, .int v80_0, .int v80_1, .int v80_2, .ref tr, .int tc, .ref fz, .int v80_3])), (sl, .inl (cI, 1653, .inl v80_4)), (tb, .inl (cB, 120, .inl tbf))] H := hP
                                  have hD : va_D A [(h, .inr (7, [.ref sl, .int na, .ref zs, .ref ln, .ref ir, .ref tk, .int su, .int le, .ref tb, .int v80_0, .int v80_1, .int v80_2, .ref tr, .int tc, .ref fz, .int v80_3])), (sl, .inl (cI, 1653, .inl v80_4)), (tb, .inl (cB, 120, .inl tbf))] := hD
                                  obtain ⟨c80_0, c80_1, c80_2, c80_3, c80_4⟩ := hw_80
                                  have c80_1 : (g1_c76.toInt ≤ v80_1.toInt) := c80_1
                                  have c80_2 : 0 ≤ v80_1.toInt ∧ v80_1.toInt ≤ 120 := c80_2
                                  have c80_3 : 0 ≤ v80_2.toInt ∧ v80_2.toInt ≤ 120 := c80_3
                                  have c80_4 : SI v80_4 v0 := c80_4
                                  rcases c80_0 with ⟨e_80, f_80⟩ | ⟨e_80, f_80⟩
                                  · subst e_80
                                    have f_80 : ((((0, v80_0.toInt, v80_2.toInt, v80_1.toInt) : TPS), ur v80_4) : TPT) = tpW (tbr tbf le.toInt) ((0, g0_c76.toInt, g2_c76.toInt, g1_c76.toInt), ur g4_c76) ∧ g1_c76.toInt < v80_1.toInt ∧ (ur v80_4).1 = (ur g4_c76).1 ∧ (ur v80_4).2.1 = (ur g4_c76).2.1 := f_80
                                    refine lv_istore (lv' := [(4, .int 1), (1, .int 2), (3, .int r_55), (2, .int r_54), (0, .ref h)]) hx hb dX8_isLand_189 hl (by decide) rfl (fun ls hl => ?_)
                                    refine lv_goto (tgt := 205) hx hb dX8_isLand_191 (by decide) ?_
                                    refine lv_iload hx hb dX8_isLand_205 (lv_at hl 0 rfl) ?_
                                    refine lv_if_ne (tgt := 212) hx hb dX8_isLand_207 (by decide) (fun _ => ?_) (fun c9 => absurd c9 (by decide))
                                    refine lv_goto (tgt := 76) hx hb dX8_isLand_212 (by decide) ?_
                                    exact ih76 2 v80_0 v80_1 v80_2 v80_3 v80_4 _ _ _ (show 0 ≤ 2 ∧ 2 ≤ 2 from by omega) (show 0 ≤ v80_1.toInt ∧ v80_1.toInt ≤ 120 from by omega) (show 0 ≤ v80_2.toInt ∧ v80_2.toInt ≤ 120 from by omega) c80_4 (show 2 = 0 ∨ 1 ≤ (ur v80_4).1 from by omega) (show 0 ≤ (ur v80_4).1 from by omega) (show 0 ≤ (ur v80_4).2.1 ∧ (ur v80_4).2.1 ≤ 12 from by omega) (tpq_back q0_c76 (tpq_W (fun p hp => tbr_hi hp) (by omega) (by omega) (by omega) (by omega) (by omega)) f_80.1 (by first | omega | decide)) (by omega) (hP.sub [1, 0, 2] rfl) (hD.sub [1, 0, 2] (by decide) rfl) hS (lv_sub hl [1, 4] rfl)
                                  · subst e_80
                                    have f_80 : tfa (tpW (tbr tbf le.toInt) ((0, g0_c76.toInt, g2_c76.toInt, g1_c76.toInt), ur g4_c76)).1 v80_0.toInt v80_2.toInt := f_80
                                    refine lv_istore (lv' := [(4, .int 0), (1, .int 2), (3, .int r_55), (2, .int r_54), (0, .ref h)]) hx hb dX8_isLand_189 hl (by decide) rfl (fun ls hl => ?_)
                                    refine lv_goto (tgt := 205) hx hb dX8_isLand_191 (by decide) ?_
                                    refine lv_iload hx hb dX8_isLand_205 (lv_at hl 0 rfl) ?_
                                    refine lv_if_ne (tgt := 212) hx hb dX8_isLand_207 (by decide) (fun c9 => absurd (by decide) c9) (fun _ => ?_)
                                    refine lv_iconst (v := 0) hx hb dX8_isLand_210 (by decide) ?_
                                    exact wr_z (v := 0) hx hb hr hlocks hS (v80_0, v80_1, v80_2, v80_3, v80_4) (by exact ⟨Or.inr (⟨rfl, show (tpA (tbr tbf le.toInt) le.toInt fu.toInt pp.toInt).1.1 = 1 ∧ (tpA (tbr tbf le.toInt) le.toInt fu.toInt pp.toInt).1.2.1 = v80_0.toInt ∧ (tpA (tbr tbf le.toInt) le.toInt fu.toInt pp.toInt).1.2.2.1 = v80_2.toInt from tfa_1 (tpq_fb q0_c76 (tpq_W (fun p hp => tbr_hi hp) (by omega) (by omega) (by omega) (by omega) (by omega)) f_80)⟩), show 0 ≤ (v80_1 : Int32).toInt ∧ (v80_1 : Int32).toInt ≤ 120 from by omega, show 0 ≤ (v80_2 : Int32).toInt ∧ (v80_2 : Int32).toInt ≤ 120 from by omega, c80_4⟩) (hP.sub [0, 1, 2] rfl) (hD.sub [0, 1, 2] (by decide) rfl) dX8_isLand_211 rfl
                            · have f_74 : ¬ 2 ≤ t1_c76.toInt := zi_nle c_74
                              refine lv_aload_n hx hb dX8_isLand_145 rfl (lv_at hl 3 rfl) ?_
                              refine va_get (D := D) (ci := 7) (v := .ref sl) (C := RX8) (T := TX8) (N := 16) hx hb hts (fun _ h => List.mem_cons_of_mem _ (List.mem_append_right _ h)) hown hK hP 1 rfl rfl 0 (by decide) (hts (.fieldLink RX8 7 "WinterWalkModel" "slot" "[I") (List.mem_of_getElem? (i := 2) rfl)) (fun _ h9 => h9) rfl dX8_isLand_146 ?_
                              refine lv_sipush (v := 1597) hx hb dX8_isLand_149 (by decide) ?_
                              refine va_iald hx hb hK hP 0 0 rfl rfl (zi_in (by decide) (by decide)) dX8_isLand_152 ?_
                              refine lv_topi (fun x_81 ex_81 => ?_)
                              have f_81 : 0 ≤ x_81.toInt ∧ x_81.toInt ≤ 8 := by rw [ex_81]; exact si_v ha_g4_c76 (s := 28) (by decide) (by omega)
                              have u_81 : x_81.toInt = (ur g4_c76).1 := by rw [ex_81]; exact ux_v
                              refine lv_if_le (tgt := 167) hx hb dX8_isLand_153 (by decide) (fun c_82 => ?_) (fun c_82 => ?_)
                              · have f_82 : (ur g4_c76).1 ≤ 0 := by
                                  have h8 := zi_le c_82
                                  try rw [u_81] at h8
                                  exact h8
                                refine lv_iload_n hx hb dX8_isLand_167 rfl (lv_at hl 0 rfl) ?_
                                refine lv_if_le (tgt := 194) hx hb dX8_isLand_168 (by decide) (fun c_83 => ?_) (fun c_83 => ?_)
                                · have f_83 : r_55.toInt ≤ 0 := zi_le c_83
                                  refine lv_aload_n hx hb dX8_isLand_194 rfl (lv_at hl 3 rfl) ?_
                                  refine lv_iconst (v := 1) hx hb dX8_isLand_195 (by decide) ?_
                                  refine lv_aload_n hx hb dX8_isLand_196 rfl (lv_at hl 3 rfl) ?_
                                  refine va_get (D := D) (ci := 7) (v := .int g1_c76) (C := RX8) (T := TX8) (N := 16) hx hb hts (fun _ h => List.mem_cons_of_mem _ (List.mem_append_right _ h)) hown hK hP 1 rfl rfl 10 (by decide) (hts (.fieldLink RX8 62 "WinterWalkModel" "at" "I") (List.mem_of_getElem? (i := 1) rfl)) (fun _ h9 => h9) rfl dX8_isLand_197 ?_
                                  have k_84 := (p_X8_fails l D cI cB cQ H.size h sl zs ln ir tk tb tr fz na su le g0_c76 g1_c76 g2_c76 tc g3_c76 1 g1_c76 (by omega) (by omega))
                                  refine wc_i (WC := [(h, .inr (7, [.ref sl, .int na, .ref zs, .ref ln, .ref ir, .ref tk, .int su, .int le, .ref tb, .int g0_c76, .int g1_c76, .int g2_c76, .ref tr, .int tc, .ref fz, .int g3_c76]))]) (WR := [(sl, .inl (cI, 1653, .inl g4_c76)), (tb, .inl (cB, 120, .inl tbf))]) (va_runV (As := [.int 1, .int g1_c76]) (rest := []) ⟨hx, hb, hml, hown, hts⟩ k_84 (cwV 2 hts gX8_isLand_X8_fails rfl rfl rfl (by decide +kernel) ⟨Nat.le_of_ble_eq_true rfl, Nat.le_of_ble_eq_true rfl⟩) (wp_V hP hK hD hN [1] (by decide) rfl (ci := 7) rfl rfl) rfl rfl hl.1 rfl (lv_room (Nat.le_of_ble_eq_true rfl)) dX8_isLand_200 ⟨Nat.le_of_ble_eq_true rfl, Nat.le_of_ble_eq_true rfl⟩) hP hD hS hA [1] [0, 2] rfl rfl (by decide) (by decide) (fun r_84 => pe2 (fun v84_0 v84_1 H locs hw_84 hP hD hS => ?_))
                                  clear k_84
                                  have hP : va_P D kl [(sl, .inl (cI, 1653, .inl g4_c76)), (tb, .inl (cB, 120, .inl tbf)), (h, .inr (7, [.ref sl, .int na, .ref zs, .ref ln, .ref ir, .ref tk, .int su, .int le, .ref tb, .int v84_0, .int g1_c76, .int v84_1, .ref tr, .int tc, .ref fz, .int g3_c76]))] H := hP
                                  have hD : va_D A [(sl, .inl (cI, 1653, .inl g4_c76)), (tb, .inl (cB, 120, .inl tbf)), (h, .inr (7, [.ref sl, .int na, .ref zs, .ref ln, .ref ir, .ref tk, .int su, .int le, .ref tb, .int v84_0, .int g1_c76, .int v84_1, .ref tr, .int tc, .ref fz, .int g3_c76]))] := hD
                                  obtain ⟨c84_0, c84_1, c84_2⟩ := hw_84
                                  have c84_1 : v84_0.toInt = (1 : Int) ∧ v84_1.toInt = g1_c76.toInt := c84_1
                                  have c84_2 : 0 ≤ v84_1.toInt ∧ v84_1.toInt ≤ 120 := c84_2
                                  have e_84 := c84_0
                                  · subst e_84
                                    refine lv_istore (lv' := [(4, .int 0), (3, .int r_55), (2, .int r_54), (1, .int t1_c76), (0, .ref h)]) hx hb dX8_isLand_203 hl (by decide) rfl (fun ls hl => ?_)
                                    refine lv_iload hx hb dX8_isLand_205 (lv_at hl 0 rfl) ?_
                                    refine lv_if_ne (tgt := 212) hx hb dX8_isLand_207 (by decide) (fun c9 => absurd (by decide) c9) (fun _ => ?_)
                                    refine lv_iconst (v := 0) hx hb dX8_isLand_210 (by decide) ?_
                                    exact wr_z (v := 0) hx hb hr hlocks hS (v84_0, g1_c76, v84_1, g3_c76, g4_c76) (by exact ⟨Or.inr (⟨rfl, show (tpA (tbr tbf le.toInt) le.toInt fu.toInt pp.toInt).1.1 = 1 ∧ (tpA (tbr tbf le.toInt) le.toInt fu.toInt pp.toInt).1.2.1 = v84_0.toInt ∧ (tpA (tbr tbf le.toInt) le.toInt fu.toInt pp.toInt).1.2.2.1 = v84_1.toInt from tfa_1 (by rw [← q0_c76]; exact tpq_x (by omega) (by omega) (by omega) (by omega) (by omega) (by omega) (by omega) (by omega) (by omega))⟩), show 0 ≤ (g1_c76 : Int32).toInt ∧ (g1_c76 : Int32).toInt ≤ 120 from by omega, show 0 ≤ (v84_1 : Int32).toInt ∧ (v84_1 : Int32).toInt ≤ 120 from by omega, ha_g4_c76⟩) (hP.sub [2, 0, 1] rfl) (hD.sub [2, 0, 1] (by decide) rfl) dX8_isLand_211 rfl
                                · have f_83 : ¬ r_55.toInt ≤ 0 := zi_nle c_83
                                  refine lv_aload_n hx hb dX8_isLand_171 rfl (lv_at hl 3 rfl) ?_
                                  refine va_get (D := D) (ci := 7) (v := .ref sl) (C := RX8) (T := TX8) (N := 16) hx hb hts (fun _ h => List.mem_cons_of_mem _ (List.mem_append_right _ h)) hown hK hP 1 rfl rfl 0 (by decide) (hts (.fieldLink RX8 7 "WinterWalkModel" "slot" "[I") (List.mem_of_getElem? (i := 2) rfl)) (fun _ h9 => h9) rfl dX8_isLand_172 ?_
                                  refine lv_sipush (v := 1597) hx hb dX8_isLand_175 (by decide) ?_
                                  refine va_iald hx hb hK hP 0 0 rfl rfl (zi_in (by decide) (by decide)) dX8_isLand_178 ?_
                                  refine lv_topi (fun x_85 ex_85 => ?_)
                                  have f_85 : 0 ≤ x_85.toInt ∧ x_85.toInt ≤ 8 := by rw [ex_85]; exact si_v ha_g4_c76 (s := 28) (by decide) (by omega)
                                  have u_85 : x_85.toInt = (ur g4_c76).1 := by rw [ex_85]; exact ux_v
                                  refine lv_if_le (tgt := 194) hx hb dX8_isLand_179 (by decide) (fun c_86 => ?_) (fun c_86 => ?_)
                                  · have f_86 : (ur g4_c76).1 ≤ 0 := by
                                      have h8 := zi_le c_86
                                      try rw [u_85] at h8
                                      exact h8
                                    refine lv_aload_n hx hb dX8_isLand_194 rfl (lv_at hl 3 rfl) ?_
                                    refine lv_iconst (v := 1) hx hb dX8_isLand_195 (by decide) ?_
                                    refine lv_aload_n hx hb dX8_isLand_196 rfl (lv_at hl 3 rfl) ?_
                                    refine va_get (D := D) (ci := 7) (v := .int g1_c76) (C := RX8) (T := TX8) (N := 16) hx hb hts (fun _ h => List.mem_cons_of_mem _ (List.mem_append_right _ h)) hown hK hP 1 rfl rfl 10 (by decide) (hts (.fieldLink RX8 62 "WinterWalkModel" "at" "I") (List.mem_of_getElem? (i := 1) rfl)) (fun _ h9 => h9) rfl dX8_isLand_197 ?_
                                    have k_87 := (p_X8_fails l D cI cB cQ H.size h sl zs ln ir tk tb tr fz na su le g0_c76 g1_c76 g2_c76 tc g3_c76 1 g1_c76 (by omega) (by omega))
                                    refine wc_i (WC := [(h, .inr (7, [.ref sl, .int na, .ref zs, .ref ln, .ref ir, .ref tk, .int su, .int le, .ref tb, .int g0_c76, .int g1_c76, .int g2_c76, .ref tr, .int tc, .ref fz, .int g3_c76]))]) (WR := [(sl, .inl (cI, 1653, .inl g4_c76)), (tb, .inl (cB, 120, .inl tbf))]) (va_runV (As := [.int 1, .int g1_c76]) (rest := []) ⟨hx, hb, hml, hown, hts⟩ k_87 (cwV 2 hts gX8_isLand_X8_fails rfl rfl rfl (by decide +kernel) ⟨Nat.le_of_ble_eq_true rfl, Nat.le_of_ble_eq_true rfl⟩) (wp_V hP hK hD hN [1] (by decide) rfl (ci := 7) rfl rfl) rfl rfl hl.1 rfl (lv_room (Nat.le_of_ble_eq_true rfl)) dX8_isLand_200 ⟨Nat.le_of_ble_eq_true rfl, Nat.le_of_ble_eq_true rfl⟩) hP hD hS hA [1] [0, 2] rfl rfl (by decide) (by decide) (fun r_87 => pe2 (fun v87_0 v87_1 H locs hw_87 hP hD hS => ?_))
                                    clear k_87
                                    have hP : va_P D kl [(sl, .inl (cI, 1653, .inl g4_c76)), (tb, .inl (cB, 120, .inl tbf)), (h, .inr (7, [.ref sl, .int na, .ref zs, .ref ln, .ref ir, .ref tk, .int su, .int le, .ref tb, .int v87_0, .int g1_c76, .int v87_1, .ref tr, .int tc, .ref fz, .int g3_c76]))] H := hP
                                    have hD : va_D A [(sl, .inl (cI, 1653, .inl g4_c76)), (tb, .inl (cB, 120, .inl tbf)), (h, .inr (7, [.ref sl, .int na, .ref zs, .ref ln, .ref ir, .ref tk, .int su, .int le, .ref tb, .int v87_0, .int g1_c76, .int v87_1, .ref tr, .int tc, .ref fz, .int g3_c76]))] := hD
                                    obtain ⟨c87_0, c87_1, c87_2⟩ := hw_87
                                    have c87_1 : v87_0.toInt = (1 : Int) ∧ v87_1.toInt = g1_c76.toInt := c87_1
                                    have c87_2 : 0 ≤ v87_1.toInt ∧ v87_1.toInt ≤ 120 := c87_2
                                    have e_87 := c87_0
                                    · subst e_87
                                      refine lv_istore (lv' := [(4, .int 0), (3, .int r_55), (2, .int r_54), (1, .int t1_c76), (0, .ref h)]) hx hb dX8_isLand_203 hl (by decide) rfl (fun ls hl => ?_)
                                      refine lv_iload hx hb dX8_isLand_205 (lv_at hl 0 rfl) ?_
                                      refine lv_if_ne (tgt := 212) hx hb dX8_isLand_207 (by decide) (fun c9 => absurd (by decide) c9) (fun _ => ?_)
                                      refine lv_iconst (v := 0) hx hb dX8_isLand_210 (by decide) ?_
                                      exact wr_z (v := 0) hx hb hr hlocks hS (v87_0, g1_c76, v87_1, g3_c76, g4_c76) (by exact ⟨Or.inr (⟨rfl, show (tpA (tbr tbf le.toInt) le.toInt fu.toInt pp.toInt).1.1 = 1 ∧ (tpA (tbr tbf le.toInt) le.toInt fu.toInt pp.toInt).1.2.1 = v87_0.toInt ∧ (tpA (tbr tbf le.toInt) le.toInt fu.toInt pp.toInt).1.2.2.1 = v87_1.toInt from tfa_1 (by rw [← q0_c76]; exact tpq_x (by omega) (by omega) (by omega) (by omega) (by omega) (by omega) (by omega) (by omega) (by omega))⟩), show 0 ≤ (g1_c76 : Int32).toInt ∧ (g1_c76 : Int32).toInt ≤ 120 from by omega, show 0 ≤ (v87_1 : Int32).toInt ∧ (v87_1 : Int32).toInt ≤ 120 from by omega, ha_g4_c76⟩) (hP.sub [2, 0, 1] rfl) (hD.sub [2, 0, 1] (by decide) rfl) dX8_isLand_211 rfl
                                  · have f_86 : ¬ (ur g4_c76).1 ≤ 0 := by
                                      have h8 := zi_nle c_86
                                      try rw [u_85] at h8
                                      exact h8
                                    refine lv_iconst (v := 2) hx hb dX8_isLand_182 (by decide) ?_
                                    refine lv_istore_n (lv' := [(1, .int 2), (3, .int r_55), (2, .int r_54), (0, .ref h)]) hx hb dX8_isLand_183 rfl hl (by decide) rfl (fun ls hl => ?_)
                                    refine lv_aload_n hx hb dX8_isLand_184 rfl (lv_at hl 3 rfl) ?_
                                    refine lv_iload_n hx hb dX8_isLand_185 rfl (lv_at hl 2 rfl) ?_
                                    have k_88 := (p_X8_isWalker l D cI cB cQ H.size h sl zs ln ir tk tb tr fz na su le g0_c76 g1_c76 g2_c76 tc g3_c76 r_54 g4_c76 tbf v0 ha_g4_c76 (by omega) (by omega) (by omega) (by omega) (by omega) (by omega) (by omega))
                                    refine wc_i (WC := [(h, .inr (7, [.ref sl, .int na, .ref zs, .ref ln, .ref ir, .ref tk, .int su, .int le, .ref tb, .int g0_c76, .int g1_c76, .int g2_c76, .ref tr, .int tc, .ref fz, .int g3_c76])), (sl, .inl (cI, 1653, .inl g4_c76)), (tb, .inl (cB, 120, .inl tbf))]) (WR := []) (va_runV (As := [.int r_54]) (rest := []) ⟨hx, hb, hml, hown, hts⟩ k_88 (cwV 1 hts gX8_isLand_X8_isWalker rfl rfl rfl (by decide +kernel) ⟨Nat.le_of_ble_eq_true rfl, Nat.le_of_ble_eq_true rfl⟩) (wp_V hP hK hD hN [1, 0, 2] (by decide) rfl (ci := 7) rfl rfl) rfl rfl hl.1 rfl (lv_room (Nat.le_of_ble_eq_true rfl)) dX8_isLand_186 ⟨Nat.le_of_ble_eq_true rfl, Nat.le_of_ble_eq_true rfl⟩) hP hD hS hA [1, 0, 2] [] rfl rfl (by decide) (by decide) (fun r_88 => pe5 (fun v88_0 v88_1 v88_2 v88_3 v88_4 H locs hw_88 hP hD hS => ?_))
                                    clear k_88
                                    have hP : va_P D kl [(h, .inr (7, [.ref sl, .int na, .ref zs, .ref ln, .ref ir, .ref tk, .int su, .int le, .ref tb, .int v88_0, .int v88_1, .int v88_2, .ref tr, .int tc, .ref fz, .int v88_3])), (sl, .inl (cI, 1653, .inl v88_4)), (tb, .inl (cB, 120, .inl tbf))] H := hP
                                    have hD : va_D A [(h, .inr (7, [.ref sl, .int na, .ref zs, .ref ln, .ref ir, .ref tk, .int su, .int le, .ref tb, .int v88_0, .int v88_1, .int v88_2, .ref tr, .int tc, .ref fz, .int v88_3])), (sl, .inl (cI, 1653, .inl v88_4)), (tb, .inl (cB, 120, .inl tbf))] := hD
                                    obtain ⟨c88_0, c88_1, c88_2, c88_3, c88_4⟩ := hw_88
                                    have c88_1 : (g1_c76.toInt ≤ v88_1.toInt) := c88_1
                                    have c88_2 : 0 ≤ v88_1.toInt ∧ v88_1.toInt ≤ 120 := c88_2
                                    have c88_3 : 0 ≤ v88_2.toInt ∧ v88_2.toInt ≤ 120 := c88_3
                                    have c88_4 : SI v88_4 v0 := c88_4
                                    rcases c88_0 with ⟨e_88, f_88⟩ | ⟨e_88, f_88⟩
                                    · subst e_88
                                      have f_88 : ((((0, v88_0.toInt, v88_2.toInt, v88_1.toInt) : TPS), ur v88_4) : TPT) = tpW (tbr tbf le.toInt) ((0, g0_c76.toInt, g2_c76.toInt, g1_c76.toInt), ur g4_c76) ∧ g1_c76.toInt < v88_1.toInt ∧ (ur v88_4).1 = (ur g4_c76).1 ∧ (ur v88_4).2.1 = (ur g4_c76).2.1 := f_88
                                      refine lv_istore (lv' := [(4, .int 1), (1, .int 2), (3, .int r_55), (2, .int r_54), (0, .ref h)]) hx hb dX8_isLand_189 hl (by decide) rfl (fun ls hl => ?_)
                                      refine lv_goto (tgt := 205) hx hb dX8_isLand_191 (by decide) ?_
                                      refine lv_iload hx hb dX8_isLand_205 (lv_at hl 0 rfl) ?_
                                      refine lv_if_ne (tgt := 212) hx hb dX8_isLand_207 (by decide) (fun _ => ?_) (fun c9 => absurd c9 (by decide))
                                      refine lv_goto (tgt := 76) hx hb dX8_isLand_212 (by decide) ?_
                                      exact ih76 2 v88_0 v88_1 v88_2 v88_3 v88_4 _ _ _ (show 0 ≤ 2 ∧ 2 ≤ 2 from by omega) (show 0 ≤ v88_1.toInt ∧ v88_1.toInt ≤ 120 from by omega) (show 0 ≤ v88_2.toInt ∧ v88_2.toInt ≤ 120 from by omega) c88_4 (show 2 = 0 ∨ 1 ≤ (ur v88_4).1 from by omega) (show 0 ≤ (ur v88_4).1 from by omega) (show 0 ≤ (ur v88_4).2.1 ∧ (ur v88_4).2.1 ≤ 12 from by omega) (tpq_back q0_c76 (tpq_W (fun p hp => tbr_hi hp) (by omega) (by omega) (by omega) (by omega) (by omega)) f_88.1 (by first | omega | decide)) (by omega) (hP.sub [1, 0, 2] rfl) (hD.sub [1, 0, 2] (by decide) rfl) hS (lv_sub hl [1, 4] rfl)
                                    · subst e_88
                                      have f_88 : tfa (tpW (tbr tbf le.toInt) ((0, g0_c76.toInt, g2_c76.toInt, g1_c76.toInt), ur g4_c76)).1 v88_0.toInt v88_2.toInt := f_88
                                      refine lv_istore (lv' := [(4, .int 0), (1, .int 2), (3, .int r_55), (2, .int r_54), (0, .ref h)]) hx hb dX8_isLand_189 hl (by decide) rfl (fun ls hl => ?_)
                                      refine lv_goto (tgt := 205) hx hb dX8_isLand_191 (by decide) ?_
                                      refine lv_iload hx hb dX8_isLand_205 (lv_at hl 0 rfl) ?_
                                      refine lv_if_ne (tgt := 212) hx hb dX8_isLand_207 (by decide) (fun c9 => absurd (by decide) c9) (fun _ => ?_)
                                      refine lv_iconst (v := 0) hx hb dX8_isLand_210 (by decide) ?_
                                      exact wr_z (v := 0) hx hb hr hlocks hS (v88_0, v88_1, v88_2, v88_3, v88_4) (by exact ⟨Or.inr (⟨rfl, show (tpA (tbr tbf le.toInt) le.toInt fu.toInt pp.toInt).1.1 = 1 ∧ (tpA (tbr tbf le.toInt) le.toInt fu.toInt pp.toInt).1.2.1 = v88_0.toInt ∧ (tpA (tbr tbf le.toInt) le.toInt fu.toInt pp.toInt).1.2.2.1 = v88_2.toInt from tfa_1 (tpq_fb q0_c76 (tpq_W (fun p hp => tbr_hi hp) (by omega) (by omega) (by omega) (by omega) (by omega)) f_88)⟩), show 0 ≤ (v88_1 : Int32).toInt ∧ (v88_1 : Int32).toInt ≤ 120 from by omega, show 0 ≤ (v88_2 : Int32).toInt ∧ (v88_2 : Int32).toInt ≤ 120 from by omega, c88_4⟩) (hP.sub [0, 1, 2] rfl) (hD.sub [0, 1, 2] (by decide) rfl) dX8_isLand_211 rfl
                              · have f_82 : ¬ (ur g4_c76).1 ≤ 0 := by
                                  have h8 := zi_nle c_82
                                  try rw [u_81] at h8
                                  exact h8
                                refine lv_iconst (v := 1) hx hb dX8_isLand_156 (by decide) ?_
                                refine lv_istore_n (lv' := [(1, .int 1), (3, .int r_55), (2, .int r_54), (0, .ref h)]) hx hb dX8_isLand_157 rfl hl (by decide) rfl (fun ls hl => ?_)
                                refine lv_aload_n hx hb dX8_isLand_158 rfl (lv_at hl 3 rfl) ?_
                                have k_89 := (p_X8_isRoad l D cI cB cQ H.size h sl zs ln ir tk tb tr fz na su le g0_c76 g1_c76 g2_c76 tc g3_c76 g4_c76 tbf v0 ha_g4_c76 (by omega) (by omega) (by omega) (by omega) (by omega) (by omega) (by omega))
                                refine wc_i (WC := [(h, .inr (7, [.ref sl, .int na, .ref zs, .ref ln, .ref ir, .ref tk, .int su, .int le, .ref tb, .int g0_c76, .int g1_c76, .int g2_c76, .ref tr, .int tc, .ref fz, .int g3_c76])), (sl, .inl (cI, 1653, .inl g4_c76)), (tb, .inl (cB, 120, .inl tbf))]) (WR := []) (va_runV (As := []) (rest := []) ⟨hx, hb, hml, hown, hts⟩ k_89 (cwV 0 hts gX8_isLand_X8_isRoad rfl rfl rfl (by decide +kernel) ⟨Nat.le_of_ble_eq_true rfl, Nat.le_of_ble_eq_true rfl⟩) (wp_V hP hK hD hN [1, 0, 2] (by decide) rfl (ci := 7) rfl rfl) rfl rfl hl.1 rfl (lv_room (Nat.le_of_ble_eq_true rfl)) dX8_isLand_159 ⟨Nat.le_of_ble_eq_true rfl, Nat.le_of_ble_eq_true rfl⟩) hP hD hS hA [1, 0, 2] [] rfl rfl (by decide) (by decide) (fun r_89 => pe5 (fun v89_0 v89_1 v89_2 v89_3 v89_4 H locs hw_89 hP hD hS => ?_))
                                clear k_89
                                have hP : va_P D kl [(h, .inr (7, [.ref sl, .int na, .ref zs, .ref ln, .ref ir, .ref tk, .int su, .int le, .ref tb, .int v89_0, .int v89_1, .int v89_2, .ref tr, .int tc, .ref fz, .int v89_3])), (sl, .inl (cI, 1653, .inl v89_4)), (tb, .inl (cB, 120, .inl tbf))] H := hP
                                have hD : va_D A [(h, .inr (7, [.ref sl, .int na, .ref zs, .ref ln, .ref ir, .ref tk, .int su, .int le, .ref tb, .int v89_0, .int v89_1, .int v89_2, .ref tr, .int tc, .ref fz, .int v89_3])), (sl, .inl (cI, 1653, .inl v89_4)), (tb, .inl (cB, 120, .inl tbf))] := hD
                                obtain ⟨c89_0, c89_1, c89_2, c89_3, c89_4⟩ := hw_89
                                have c89_1 : (g1_c76.toInt ≤ v89_1.toInt) := c89_1
                                have c89_2 : 0 ≤ v89_1.toInt ∧ v89_1.toInt ≤ 120 := c89_2
                                have c89_3 : 0 ≤ v89_2.toInt ∧ v89_2.toInt ≤ 120 := c89_3
                                have c89_4 : SI v89_4 v0 := c89_4
                                rcases c89_0 with ⟨e_89, f_89⟩ | ⟨e_89, f_89⟩
                                · subst e_89
                                  have f_89 : ((((0, v89_0.toInt, v89_2.toInt, v89_1.toInt) : TPS), ur v89_4) : TPT) = tpR (tbr tbf le.toInt) ((0, g0_c76.toInt, g2_c76.toInt, g1_c76.toInt), ur g4_c76) ∧ g1_c76.toInt < v89_1.toInt ∧ (ur v89_4).1 = (ur g4_c76).1 ∧ (ur v89_4).2.1 = (ur g4_c76).2.1 + 1 ∧ (ur g4_c76).2.1 ≤ 11 := f_89
                                  refine lv_istore (lv' := [(4, .int 1), (1, .int 1), (3, .int r_55), (2, .int r_54), (0, .ref h)]) hx hb dX8_isLand_162 hl (by decide) rfl (fun ls hl => ?_)
                                  refine lv_goto (tgt := 205) hx hb dX8_isLand_164 (by decide) ?_
                                  refine lv_iload hx hb dX8_isLand_205 (lv_at hl 0 rfl) ?_
                                  refine lv_if_ne (tgt := 212) hx hb dX8_isLand_207 (by decide) (fun _ => ?_) (fun c9 => absurd c9 (by decide))
                                  refine lv_goto (tgt := 76) hx hb dX8_isLand_212 (by decide) ?_
                                  exact ih76 1 v89_0 v89_1 v89_2 v89_3 v89_4 _ _ _ (show 0 ≤ 1 ∧ 1 ≤ 2 from by omega) (show 0 ≤ v89_1.toInt ∧ v89_1.toInt ≤ 120 from by omega) (show 0 ≤ v89_2.toInt ∧ v89_2.toInt ≤ 120 from by omega) c89_4 (show 1 = 0 ∨ 1 ≤ (ur v89_4).1 from by omega) (show 0 ≤ (ur v89_4).1 from by omega) (show 0 ≤ (ur v89_4).2.1 ∧ (ur v89_4).2.1 ≤ 12 from by omega) (tpq_back q0_c76 (tpq_R (fun p hp => tbr_hi hp) (by omega) (by omega) (by omega) (by omega) (by omega)) f_89.1 (by first | omega | decide)) (by omega) (hP.sub [1, 0, 2] rfl) (hD.sub [1, 0, 2] (by decide) rfl) hS (lv_sub hl [1, 4] rfl)
                                · subst e_89
                                  have f_89 : tfa (tpR (tbr tbf le.toInt) ((0, g0_c76.toInt, g2_c76.toInt, g1_c76.toInt), ur g4_c76)).1 v89_0.toInt v89_2.toInt := f_89
                                  refine lv_istore (lv' := [(4, .int 0), (1, .int 1), (3, .int r_55), (2, .int r_54), (0, .ref h)]) hx hb dX8_isLand_162 hl (by decide) rfl (fun ls hl => ?_)
                                  refine lv_goto (tgt := 205) hx hb dX8_isLand_164 (by decide) ?_
                                  refine lv_iload hx hb dX8_isLand_205 (lv_at hl 0 rfl) ?_
                                  refine lv_if_ne (tgt := 212) hx hb dX8_isLand_207 (by decide) (fun c9 => absurd (by decide) c9) (fun _ => ?_)
                                  refine lv_iconst (v := 0) hx hb dX8_isLand_210 (by decide) ?_
                                  exact wr_z (v := 0) hx hb hr hlocks hS (v89_0, v89_1, v89_2, v89_3, v89_4) (by exact ⟨Or.inr (⟨rfl, show (tpA (tbr tbf le.toInt) le.toInt fu.toInt pp.toInt).1.1 = 1 ∧ (tpA (tbr tbf le.toInt) le.toInt fu.toInt pp.toInt).1.2.1 = v89_0.toInt ∧ (tpA (tbr tbf le.toInt) le.toInt fu.toInt pp.toInt).1.2.2.1 = v89_2.toInt from tfa_1 (tpq_fb q0_c76 (tpq_R (fun p hp => tbr_hi hp) (by omega) (by omega) (by omega) (by omega) (by omega)) f_89)⟩), show 0 ≤ (v89_1 : Int32).toInt ∧ (v89_1 : Int32).toInt ≤ 120 from by omega, show 0 ≤ (v89_2 : Int32).toInt ∧ (v89_2 : Int32).toInt ≤ 120 from by omega, c89_4⟩) (hP.sub [0, 1, 2] rfl) (hD.sub [0, 1, 2] (by decide) rfl) dX8_isLand_211 rfl
                        · have f_66 : r_54.toInt = 99 := zi_eq c_66
                          refine lv_iload_n hx hb dX8_isLand_120 rfl (lv_at hl 2 rfl) ?_
                          refine lv_if_ne (tgt := 134) hx hb dX8_isLand_121 (by decide) (fun c_90 => ?_) (fun c_90 => ?_)
                          · have f_90 : ¬ t1_c76.toInt = 0 := zi_ne c_90
                            refine lv_iload_n hx hb dX8_isLand_134 rfl (lv_at hl 1 rfl) ?_
                            refine lv_bipush (v := 114) hx hb dX8_isLand_135 (by decide) ?_
                            refine lv_icmp_ne (tgt := 167) hx hb dX8_isLand_137 (by decide) (fun c_91 => ?_) (fun c_91 => ?_)
                            · have f_91 : ¬ r_54.toInt = 114 := zi_ne c_91
                              refine lv_iload_n hx hb dX8_isLand_167 rfl (lv_at hl 0 rfl) ?_
                              refine lv_if_le (tgt := 194) hx hb dX8_isLand_168 (by decide) (fun c_92 => ?_) (fun c_92 => ?_)
                              · have f_92 : r_55.toInt ≤ 0 := zi_le c_92
                                refine lv_aload_n hx hb dX8_isLand_194 rfl (lv_at hl 3 rfl) ?_
                                refine lv_iconst (v := 1) hx hb dX8_isLand_195 (by decide) ?_
                                refine lv_aload_n hx hb dX8_isLand_196 rfl (lv_at hl 3 rfl) ?_
                                refine va_get (D := D) (ci := 7) (v := .int g1_c76) (C := RX8) (T := TX8) (N := 16) hx hb hts (fun _ h => List.mem_cons_of_mem _ (List.mem_append_right _ h)) hown hK hP 1 rfl rfl 10 (by decide) (hts (.fieldLink RX8 62 "WinterWalkModel" "at" "I") (List.mem_of_getElem? (i := 1) rfl)) (fun _ h9 => h9) rfl dX8_isLand_197 ?_
                                have k_93 := (p_X8_fails l D cI cB cQ H.size h sl zs ln ir tk tb tr fz na su le g0_c76 g1_c76 g2_c76 tc g3_c76 1 g1_c76 (by omega) (by omega))
                                refine wc_i (WC := [(h, .inr (7, [.ref sl, .int na, .ref zs, .ref ln, .ref ir, .ref tk, .int su, .int le, .ref tb, .int g0_c76, .int g1_c76, .int g2_c76, .ref tr, .int tc, .ref fz, .int g3_c76]))]) (WR := [(sl, .inl (cI, 1653, .inl g4_c76)), (tb, .inl (cB, 120, .inl tbf))]) (va_runV (As := [.int 1, .int g1_c76]) (rest := []) ⟨hx, hb, hml, hown, hts⟩ k_93 (cwV 2 hts gX8_isLand_X8_fails rfl rfl rfl (by decide +kernel) ⟨Nat.le_of_ble_eq_true rfl, Nat.le_of_ble_eq_true rfl⟩) (wp_V hP hK hD hN [1] (by decide) rfl (ci := 7) rfl rfl) rfl rfl hl.1 rfl (lv_room (Nat.le_of_ble_eq_true rfl)) dX8_isLand_200 ⟨Nat.le_of_ble_eq_true rfl, Nat.le_of_ble_eq_true rfl⟩) hP hD hS hA [1] [0, 2] rfl rfl (by decide) (by decide) (fun r_93 => pe2 (fun v93_0 v93_1 H locs hw_93 hP hD hS => ?_))
                                clear k_93
                                have hP : va_P D kl [(sl, .inl (cI, 1653, .inl g4_c76)), (tb, .inl (cB, 120, .inl tbf)), (h, .inr (7, [.ref sl, .int na, .ref zs, .ref ln, .ref ir, .ref tk, .int su, .int le, .ref tb, .int v93_0, .int g1_c76, .int v93_1, .ref tr, .int tc, .ref fz, .int g3_c76]))] H := hP
                                have hD : va_D A [(sl, .inl (cI, 1653, .inl g4_c76)), (tb, .inl (cB, 120, .inl tbf)), (h, .inr (7, [.ref sl, .int na, .ref zs, .ref ln, .ref ir, .ref tk, .int su, .int le, .ref tb, .int v93_0, .int g1_c76, .int v93_1, .ref tr, .int tc, .ref fz, .int g3_c76]))] := hD
                                obtain ⟨c93_0, c93_1, c93_2⟩ := hw_93
                                have c93_1 : v93_0.toInt = (1 : Int) ∧ v93_1.toInt = g1_c76.toInt := c93_1
                                have c93_2 : 0 ≤ v93_1.toInt ∧ v93_1.toInt ≤ 120 := c93_2
                                have e_93 := c93_0
                                · subst e_93
                                  refine lv_istore (lv' := [(4, .int 0), (3, .int r_55), (2, .int r_54), (1, .int t1_c76), (0, .ref h)]) hx hb dX8_isLand_203 hl (by decide) rfl (fun ls hl => ?_)
                                  refine lv_iload hx hb dX8_isLand_205 (lv_at hl 0 rfl) ?_
                                  refine lv_if_ne (tgt := 212) hx hb dX8_isLand_207 (by decide) (fun c9 => absurd (by decide) c9) (fun _ => ?_)
                                  refine lv_iconst (v := 0) hx hb dX8_isLand_210 (by decide) ?_
                                  exact wr_z (v := 0) hx hb hr hlocks hS (v93_0, g1_c76, v93_1, g3_c76, g4_c76) (by exact ⟨Or.inr (⟨rfl, show (tpA (tbr tbf le.toInt) le.toInt fu.toInt pp.toInt).1.1 = 1 ∧ (tpA (tbr tbf le.toInt) le.toInt fu.toInt pp.toInt).1.2.1 = v93_0.toInt ∧ (tpA (tbr tbf le.toInt) le.toInt fu.toInt pp.toInt).1.2.2.1 = v93_1.toInt from tfa_1 (by rw [← q0_c76]; exact tpq_x (by omega) (by omega) (by omega) (by omega) (by omega) (by omega) (by omega) (by omega) (by omega))⟩), show 0 ≤ (g1_c76 : Int32).toInt ∧ (g1_c76 : Int32).toInt ≤ 120 from by omega, show 0 ≤ (v93_1 : Int32).toInt ∧ (v93_1 : Int32).toInt ≤ 120 from by omega, ha_g4_c76⟩) (hP.sub [2, 0, 1] rfl) (hD.sub [2, 0, 1] (by decide) rfl) dX8_isLand_211 rfl
                              · have f_92 : ¬ r_55.toInt ≤ 0 := zi_nle c_92
                                refine lv_aload_n hx hb dX8_isLand_171 rfl (lv_at hl 3 rfl) ?_
                                refine va_get (D := D) (ci := 7) (v := .ref sl) (C := RX8) (T := TX8) (N := 16) hx hb hts (fun _ h => List.mem_cons_of_mem _ (List.mem_append_right _ h)) hown hK hP 1 rfl rfl 0 (by decide) (hts (.fieldLink RX8 7 "WinterWalkModel" "slot" "[I") (List.mem_of_getElem? (i := 2) rfl)) (fun _ h9 => h9) rfl dX8_isLand_172 ?_
                                refine lv_sipush (v := 1597) hx hb dX8_isLand_175 (by decide) ?_
                                refine va_iald hx hb hK hP 0 0 rfl rfl (zi_in (by decide) (by decide)) dX8_isLand_178 ?_
                                refine lv_topi (fun x_94 ex_94 => ?_)
                                have f_94 : 0 ≤ x_94.toInt ∧ x_94.toInt ≤ 8 := by rw [ex_94]; exact si_v ha_g4_c76 (s := 28) (by decide) (by omega)
                                have u_94 : x_94.toInt = (ur g4_c76).1 := by rw [ex_94]; exact ux_v
                                refine lv_if_le (tgt := 194) hx hb dX8_isLand_179 (by decide) (fun c_95 => ?_) (fun c_95 => ?_)
                                · have f_95 : (ur g4_c76).1 ≤ 0 := by
                                    have h8 := zi_le c_95
                                    try rw [u_94] at h8
                                    exact h8
                                  refine lv_aload_n hx hb dX8_isLand_194 rfl (lv_at hl 3 rfl) ?_
                                  refine lv_iconst (v := 1) hx hb dX8_isLand_195 (by decide) ?_
                                  refine lv_aload_n hx hb dX8_isLand_196 rfl (lv_at hl 3 rfl) ?_
                                  refine va_get (D := D) (ci := 7) (v := .int g1_c76) (C := RX8) (T := TX8) (N := 16) hx hb hts (fun _ h => List.mem_cons_of_mem _ (List.mem_append_right _ h)) hown hK hP 1 rfl rfl 10 (by decide) (hts (.fieldLink RX8 62 "WinterWalkModel" "at" "I") (List.mem_of_getElem? (i := 1) rfl)) (fun _ h9 => h9) rfl dX8_isLand_197 ?_
                                  have k_96 := (p_X8_fails l D cI cB cQ H.size h sl zs ln ir tk tb tr fz na su le g0_c76 g1_c76 g2_c76 tc g3_c76 1 g1_c76 (by omega) (by omega))
                                  refine wc_i (WC := [(h, .inr (7, [.ref sl, .int na, .ref zs, .ref ln, .ref ir, .ref tk, .int su, .int le, .ref tb, .int g0_c76, .int g1_c76, .int g2_c76, .ref tr, .int tc, .ref fz, .int g3_c76]))]) (WR := [(sl, .inl (cI, 1653, .inl g4_c76)), (tb, .inl (cB, 120, .inl tbf))]) (va_runV (As := [.int 1, .int g1_c76]) (rest := []) ⟨hx, hb, hml, hown, hts⟩ k_96 (cwV 2 hts gX8_isLand_X8_fails rfl rfl rfl (by decide +kernel) ⟨Nat.le_of_ble_eq_true rfl, Nat.le_of_ble_eq_true rfl⟩) (wp_V hP hK hD hN [1] (by decide) rfl (ci := 7) rfl rfl) rfl rfl hl.1 rfl (lv_room (Nat.le_of_ble_eq_true rfl)) dX8_isLand_200 ⟨Nat.le_of_ble_eq_true rfl, Nat.le_of_ble_eq_true rfl⟩) hP hD hS hA [1] [0, 2] rfl rfl (by decide) (by decide) (fun r_96 => pe2 (fun v96_0 v96_1 H locs hw_96 hP hD hS => ?_))
                                  clear k_96
                                  have hP : va_P D kl [(sl, .inl (cI, 1653, .inl g4_c76)), (tb, .inl (cB, 120, .inl tbf)), (h, .inr (7, [.ref sl, .int na, .ref zs, .ref ln, .ref ir, .ref tk, .int su, .int le, .ref tb, .int v96_0, .int g1_c76, .int v96_1, .ref tr, .int tc, .ref fz, .int g3_c76]))] H := hP
                                  have hD : va_D A [(sl, .inl (cI, 1653, .inl g4_c76)), (tb, .inl (cB, 120, .inl tbf)), (h, .inr (7, [.ref sl, .int na, .ref zs, .ref ln, .ref ir, .ref tk, .int su, .int le, .ref tb, .int v96_0, .int g1_c76, .int v96_1, .ref tr, .int tc, .ref fz, .int g3_c76]))] := hD
                                  obtain ⟨c96_0, c96_1, c96_2⟩ := hw_96
                                  have c96_1 : v96_0.toInt = (1 : Int) ∧ v96_1.toInt = g1_c76.toInt := c96_1
                                  have c96_2 : 0 ≤ v96_1.toInt ∧ v96_1.toInt ≤ 120 := c96_2
                                  have e_96 := c96_0
                                  · subst e_96
                                    refine lv_istore (lv' := [(4, .int 0), (3, .int r_55), (2, .int r_54), (1, .int t1_c76), (0, .ref h)]) hx hb dX8_isLand_203 hl (by decide) rfl (fun ls hl => ?_)
                                    refine lv_iload hx hb dX8_isLand_205 (lv_at hl 0 rfl) ?_
                                    refine lv_if_ne (tgt := 212) hx hb dX8_isLand_207 (by decide) (fun c9 => absurd (by decide) c9) (fun _ => ?_)
                                    refine lv_iconst (v := 0) hx hb dX8_isLand_210 (by decide) ?_
                                    exact wr_z (v := 0) hx hb hr hlocks hS (v96_0, g1_c76, v96_1, g3_c76, g4_c76) (by exact ⟨Or.inr (⟨rfl, show (tpA (tbr tbf le.toInt) le.toInt fu.toInt pp.toInt).1.1 = 1 ∧ (tpA (tbr tbf le.toInt) le.toInt fu.toInt pp.toInt).1.2.1 = v96_0.toInt ∧ (tpA (tbr tbf le.toInt) le.toInt fu.toInt pp.toInt).1.2.2.1 = v96_1.toInt from tfa_1 (by rw [← q0_c76]; exact tpq_x (by omega) (by omega) (by omega) (by omega) (by omega) (by omega) (by omega) (by omega) (by omega))⟩), show 0 ≤ (g1_c76 : Int32).toInt ∧ (g1_c76 : Int32).toInt ≤ 120 from by omega, show 0 ≤ (v96_1 : Int32).toInt ∧ (v96_1 : Int32).toInt ≤ 120 from by omega, ha_g4_c76⟩) (hP.sub [2, 0, 1] rfl) (hD.sub [2, 0, 1] (by decide) rfl) dX8_isLand_211 rfl
                                · have f_95 : ¬ (ur g4_c76).1 ≤ 0 := by
                                    have h8 := zi_nle c_95
                                    try rw [u_94] at h8
                                    exact h8
                                  refine lv_iconst (v := 2) hx hb dX8_isLand_182 (by decide) ?_
                                  refine lv_istore_n (lv' := [(1, .int 2), (3, .int r_55), (2, .int r_54), (0, .ref h)]) hx hb dX8_isLand_183 rfl hl (by decide) rfl (fun ls hl => ?_)
                                  refine lv_aload_n hx hb dX8_isLand_184 rfl (lv_at hl 3 rfl) ?_
                                  refine lv_iload_n hx hb dX8_isLand_185 rfl (lv_at hl 2 rfl) ?_
                                  have k_97 := (p_X8_isWalker l D cI cB cQ H.size h sl zs ln ir tk tb tr fz na su le g0_c76 g1_c76 g2_c76 tc g3_c76 r_54 g4_c76 tbf v0 ha_g4_c76 (by omega) (by omega) (by omega) (by omega) (by omega) (by omega) (by omega))
                                  refine wc_i (WC := [(h, .inr (7, [.ref sl, .int na, .ref zs, .ref ln, .ref ir, .ref tk, .int su, .int le, .ref tb, .int g0_c76, .int g1_c76, .int g2_c76, .ref tr, .int tc, .ref fz, .int g3_c76])), (sl, .inl (cI, 1653, .inl g4_c76)), (tb, .inl (cB, 120, .inl tbf))]) (WR := []) (va_runV (As := [.int r_54]) (rest := []) ⟨hx, hb, hml, hown, hts⟩ k_97 (cwV 1 hts gX8_isLand_X8_isWalker rfl rfl rfl (by decide +kernel) ⟨Nat.le_of_ble_eq_true rfl, Nat.le_of_ble_eq_true rfl⟩) (wp_V hP hK hD hN [1, 0, 2] (by decide) rfl (ci := 7) rfl rfl) rfl rfl hl.1 rfl (lv_room (Nat.le_of_ble_eq_true rfl)) dX8_isLand_186 ⟨Nat.le_of_ble_eq_true rfl, Nat.le_of_ble_eq_true rfl⟩) hP hD hS hA [1, 0, 2] [] rfl rfl (by decide) (by decide) (fun r_97 => pe5 (fun v97_0 v97_1 v97_2 v97_3 v97_4 H locs hw_97 hP hD hS => ?_))
                                  clear k_97
                                  have hP : va_P D kl [(h, .inr (7, [.ref sl, .int na, .ref zs, .ref ln, .ref ir, .ref tk, .int su, .int le, .ref tb, .int v97_0, .int v97_1, .int v97_2, .ref tr, .int tc, .ref fz, .int v97_3])), (sl, .inl (cI, 1653, .inl v97_4)), (tb, .inl (cB, 120, .inl tbf))] H := hP
                                  have hD : va_D A [(h, .inr (7, [.ref sl, .int na, .ref zs, .ref ln, .ref ir, .ref tk, .int su, .int le, .ref tb, .int v97_0, .int v97_1, .int v97_2, .ref tr, .int tc, .ref fz, .int v97_3])), (sl, .inl (cI, 1653, .inl v97_4)), (tb, .inl (cB, 120, .inl tbf))] := hD
                                  obtain ⟨c97_0, c97_1, c97_2, c97_3, c97_4⟩ := hw_97
                                  have c97_1 : (g1_c76.toInt ≤ v97_1.toInt) := c97_1
                                  have c97_2 : 0 ≤ v97_1.toInt ∧ v97_1.toInt ≤ 120 := c97_2
                                  have c97_3 : 0 ≤ v97_2.toInt ∧ v97_2.toInt ≤ 120 := c97_3
                                  have c97_4 : SI v97_4 v0 := c97_4
                                  rcases c97_0 with ⟨e_97, f_97⟩ | ⟨e_97, f_97⟩
                                  · subst e_97
                                    have f_97 : ((((0, v97_0.toInt, v97_2.toInt, v97_1.toInt) : TPS), ur v97_4) : TPT) = tpW (tbr tbf le.toInt) ((0, g0_c76.toInt, g2_c76.toInt, g1_c76.toInt), ur g4_c76) ∧ g1_c76.toInt < v97_1.toInt ∧ (ur v97_4).1 = (ur g4_c76).1 ∧ (ur v97_4).2.1 = (ur g4_c76).2.1 := f_97
                                    refine lv_istore (lv' := [(4, .int 1), (1, .int 2), (3, .int r_55), (2, .int r_54), (0, .ref h)]) hx hb dX8_isLand_189 hl (by decide) rfl (fun ls hl => ?_)
                                    refine lv_goto (tgt := 205) hx hb dX8_isLand_191 (by decide) ?_
                                    refine lv_iload hx hb dX8_isLand_205 (lv_at hl 0 rfl) ?_
                                    refine lv_if_ne (tgt := 212) hx hb dX8_isLand_207 (by decide) (fun _ => ?_) (fun c9 => absurd c9 (by decide))
                                    refine lv_goto (tgt := 76) hx hb dX8_isLand_212 (by decide) ?_
                                    exact ih76 2 v97_0 v97_1 v97_2 v97_3 v97_4 _ _ _ (show 0 ≤ 2 ∧ 2 ≤ 2 from by omega) (show 0 ≤ v97_1.toInt ∧ v97_1.toInt ≤ 120 from by omega) (show 0 ≤ v97_2.toInt ∧ v97_2.toInt ≤ 120 from by omega) c97_4 (show 2 = 0 ∨ 1 ≤ (ur v97_4).1 from by omega) (show 0 ≤ (ur v97_4).1 from by omega) (show 0 ≤ (ur v97_4).2.1 ∧ (ur v97_4).2.1 ≤ 12 from by omega) (tpq_back q0_c76 (tpq_W (fun p hp => tbr_hi hp) (by omega) (by omega) (by omega) (by omega) (by omega)) f_97.1 (by first | omega | decide)) (by omega) (hP.sub [1, 0, 2] rfl) (hD.sub [1, 0, 2] (by decide) rfl) hS (lv_sub hl [1, 4] rfl)
                                  · subst e_97
                                    have f_97 : tfa (tpW (tbr tbf le.toInt) ((0, g0_c76.toInt, g2_c76.toInt, g1_c76.toInt), ur g4_c76)).1 v97_0.toInt v97_2.toInt := f_97
                                    refine lv_istore (lv' := [(4, .int 0), (1, .int 2), (3, .int r_55), (2, .int r_54), (0, .ref h)]) hx hb dX8_isLand_189 hl (by decide) rfl (fun ls hl => ?_)
                                    refine lv_goto (tgt := 205) hx hb dX8_isLand_191 (by decide) ?_
                                    refine lv_iload hx hb dX8_isLand_205 (lv_at hl 0 rfl) ?_
                                    refine lv_if_ne (tgt := 212) hx hb dX8_isLand_207 (by decide) (fun c9 => absurd (by decide) c9) (fun _ => ?_)
                                    refine lv_iconst (v := 0) hx hb dX8_isLand_210 (by decide) ?_
                                    exact wr_z (v := 0) hx hb hr hlocks hS (v97_0, v97_1, v97_2, v97_3, v97_4) (by exact ⟨Or.inr (⟨rfl, show (tpA (tbr tbf le.toInt) le.toInt fu.toInt pp.toInt).1.1 = 1 ∧ (tpA (tbr tbf le.toInt) le.toInt fu.toInt pp.toInt).1.2.1 = v97_0.toInt ∧ (tpA (tbr tbf le.toInt) le.toInt fu.toInt pp.toInt).1.2.2.1 = v97_2.toInt from tfa_1 (tpq_fb q0_c76 (tpq_W (fun p hp => tbr_hi hp) (by omega) (by omega) (by omega) (by omega) (by omega)) f_97)⟩), show 0 ≤ (v97_1 : Int32).toInt ∧ (v97_1 : Int32).toInt ≤ 120 from by omega, show 0 ≤ (v97_2 : Int32).toInt ∧ (v97_2 : Int32).toInt ≤ 120 from by omega, c97_4⟩) (hP.sub [0, 1, 2] rfl) (hD.sub [0, 1, 2] (by decide) rfl) dX8_isLand_211 rfl
                            · have f_91 : r_54.toInt = 114 := zi_eq c_91
                              exfalso; omega
                          · have f_90 : t1_c76.toInt = 0 := zi_eq c_90
                            refine lv_aload_n hx hb dX8_isLand_124 rfl (lv_at hl 3 rfl) ?_
                            refine lv_iload_n hx hb dX8_isLand_125 rfl (lv_at hl 1 rfl) ?_
                            have k_98 := (p_X8_isVillage l D cI cB cQ H.size h sl zs ln ir tk tb tr fz na su le g0_c76 g1_c76 g2_c76 tc g3_c76 r_54 g4_c76 tbf v0 ha_g4_c76 (by omega) (by omega) (by omega) (by omega) (by omega) (by omega))
                            refine wc_i (WC := [(h, .inr (7, [.ref sl, .int na, .ref zs, .ref ln, .ref ir, .ref tk, .int su, .int le, .ref tb, .int g0_c76, .int g1_c76, .int g2_c76, .ref tr, .int tc, .ref fz, .int g3_c76])), (sl, .inl (cI, 1653, .inl g4_c76)), (tb, .inl (cB, 120, .inl tbf))]) (WR := []) (va_runV (As := [.int r_54]) (rest := []) ⟨hx, hb, hml, hown, hts⟩ k_98 (cwV 1 hts gX8_isLand_X8_isVillage rfl rfl rfl (by decide +kernel) ⟨Nat.le_of_ble_eq_true rfl, Nat.le_of_ble_eq_true rfl⟩) (wp_V hP hK hD hN [1, 0, 2] (by decide) rfl (ci := 7) rfl rfl) rfl rfl hl.1 rfl (lv_room (Nat.le_of_ble_eq_true rfl)) dX8_isLand_126 ⟨Nat.le_of_ble_eq_true rfl, Nat.le_of_ble_eq_true rfl⟩) hP hD hS hA [1, 0, 2] [] rfl rfl (by decide) (by decide) (fun r_98 => pe5 (fun v98_0 v98_1 v98_2 v98_3 v98_4 H locs hw_98 hP hD hS => ?_))
                            clear k_98
                            have hP : va_P D kl [(h, .inr (7, [.ref sl, .int na, .ref zs, .ref ln, .ref ir, .ref tk, .int su, .int le, .ref tb, .int v98_0, .int v98_1, .int v98_2, .ref tr, .int tc, .ref fz, .int v98_3])), (sl, .inl (cI, 1653, .inl v98_4)), (tb, .inl (cB, 120, .inl tbf))] H := hP
                            have hD : va_D A [(h, .inr (7, [.ref sl, .int na, .ref zs, .ref ln, .ref ir, .ref tk, .int su, .int le, .ref tb, .int v98_0, .int v98_1, .int v98_2, .ref tr, .int tc, .ref fz, .int v98_3])), (sl, .inl (cI, 1653, .inl v98_4)), (tb, .inl (cB, 120, .inl tbf))] := hD
                            obtain ⟨c98_0, c98_1, c98_2, c98_3, c98_4⟩ := hw_98
                            have c98_1 : (g1_c76.toInt ≤ v98_1.toInt) := c98_1
                            have c98_2 : 0 ≤ v98_1.toInt ∧ v98_1.toInt ≤ 120 := c98_2
                            have c98_3 : 0 ≤ v98_2.toInt ∧ v98_2.toInt ≤ 120 := c98_3
                            have c98_4 : SI v98_4 v0 := c98_4
                            rcases c98_0 with ⟨e_98, f_98⟩ | ⟨e_98, f_98⟩
                            · subst e_98
                              have f_98 : ((((0, v98_0.toInt, v98_2.toInt, v98_1.toInt) : TPS), ur v98_4) : TPT) = tpV (tbr tbf le.toInt) ((0, g0_c76.toInt, g2_c76.toInt, g1_c76.toInt), ur g4_c76) ∧ g1_c76.toInt < v98_1.toInt ∧ (ur v98_4).1 = (ur g4_c76).1 + 1 ∧ (ur v98_4).2.1 = (ur g4_c76).2.1 := f_98
                              refine lv_istore (lv' := [(4, .int 1), (3, .int r_55), (2, .int r_54), (1, .int t1_c76), (0, .ref h)]) hx hb dX8_isLand_129 hl (by decide) rfl (fun ls hl => ?_)
                              refine lv_goto (tgt := 205) hx hb dX8_isLand_131 (by decide) ?_
                              refine lv_iload hx hb dX8_isLand_205 (lv_at hl 0 rfl) ?_
                              refine lv_if_ne (tgt := 212) hx hb dX8_isLand_207 (by decide) (fun _ => ?_) (fun c9 => absurd c9 (by decide))
                              refine lv_goto (tgt := 76) hx hb dX8_isLand_212 (by decide) ?_
                              exact ih76 t1_c76 v98_0 v98_1 v98_2 v98_3 v98_4 _ _ _ (show 0 ≤ t1_c76.toInt ∧ t1_c76.toInt ≤ 2 from by omega) (show 0 ≤ v98_1.toInt ∧ v98_1.toInt ≤ 120 from by omega) (show 0 ≤ v98_2.toInt ∧ v98_2.toInt ≤ 120 from by omega) c98_4 (show t1_c76.toInt = 0 ∨ 1 ≤ (ur v98_4).1 from by omega) (show 0 ≤ (ur v98_4).1 from by omega) (show 0 ≤ (ur v98_4).2.1 ∧ (ur v98_4).2.1 ≤ 12 from by omega) (tpq_back q0_c76 (tpq_V (fun p hp => tbr_hi hp) (by omega) (by omega) (by omega) (by omega) (by omega)) f_98.1 (by first | omega | decide)) (by omega) (hP.sub [1, 0, 2] rfl) (hD.sub [1, 0, 2] (by decide) rfl) hS (lv_sub hl [3, 4] rfl)
                            · subst e_98
                              have f_98 : tfa (tpV (tbr tbf le.toInt) ((0, g0_c76.toInt, g2_c76.toInt, g1_c76.toInt), ur g4_c76)).1 v98_0.toInt v98_2.toInt := f_98
                              refine lv_istore (lv' := [(4, .int 0), (3, .int r_55), (2, .int r_54), (1, .int t1_c76), (0, .ref h)]) hx hb dX8_isLand_129 hl (by decide) rfl (fun ls hl => ?_)
                              refine lv_goto (tgt := 205) hx hb dX8_isLand_131 (by decide) ?_
                              refine lv_iload hx hb dX8_isLand_205 (lv_at hl 0 rfl) ?_
                              refine lv_if_ne (tgt := 212) hx hb dX8_isLand_207 (by decide) (fun c9 => absurd (by decide) c9) (fun _ => ?_)
                              refine lv_iconst (v := 0) hx hb dX8_isLand_210 (by decide) ?_
                              exact wr_z (v := 0) hx hb hr hlocks hS (v98_0, v98_1, v98_2, v98_3, v98_4) (by exact ⟨Or.inr (⟨rfl, show (tpA (tbr tbf le.toInt) le.toInt fu.toInt pp.toInt).1.1 = 1 ∧ (tpA (tbr tbf le.toInt) le.toInt fu.toInt pp.toInt).1.2.1 = v98_0.toInt ∧ (tpA (tbr tbf le.toInt) le.toInt fu.toInt pp.toInt).1.2.2.1 = v98_2.toInt from tfa_1 (tpq_fb q0_c76 (tpq_V (fun p hp => tbr_hi hp) (by omega) (by omega) (by omega) (by omega) (by omega)) f_98)⟩), show 0 ≤ (v98_1 : Int32).toInt ∧ (v98_1 : Int32).toInt ≤ 120 from by omega, show 0 ≤ (v98_2 : Int32).toInt ∧ (v98_2 : Int32).toInt ≤ 120 from by omega, c98_4⟩) (hP.sub [0, 1, 2] rfl) (hD.sub [0, 1, 2] (by decide) rfl) dX8_isLand_211 rfl
              have hu0 : ur (upd g0_c7 (1596 : Int32).toNatClampNeg v3_3) = (0, 0, 0, (fun _ => 0), (fun _ => 0)) := (ur_ne (ur_w3 ha_g0_c7) (by decide) (by decide)).trans (ur_zero (fun q hq => q0_c7 q (by omega)))
              have hu1 : (ur (upd g0_c7 (1596 : Int32).toNatClampNeg v3_3)).1 = 0 := congrArg (fun u : TPU => u.1) hu0
              have hu2 : (ur (upd g0_c7 (1596 : Int32).toNatClampNeg v3_3)).2.1 = 0 := congrArg (fun u : TPU => u.2.1) hu0
              exact hL76 (((120 - (v5_1 : Int32).toInt).toNat) + 1) 0 v5_0 v5_1 v5_2 v3_3 (upd g0_c7 (1596 : Int32).toNatClampNeg v3_3) _ _ _ (show 0 ≤ 0 ∧ 0 ≤ 2 from by omega) (show 0 ≤ v5_1.toInt ∧ v5_1.toInt ≤ 120 from by omega) (show 0 ≤ v5_2.toInt ∧ v5_2.toInt ≤ 120 from by omega) ha_4 (show 0 = 0 ∨ 1 ≤ (ur (upd g0_c7 (1596 : Int32).toNatClampNeg v3_3)).1 from by omega) (show 0 ≤ (ur (upd g0_c7 (1596 : Int32).toNatClampNeg v3_3)).1 from by omega) (show 0 ≤ (ur (upd g0_c7 (1596 : Int32).toNatClampNeg v3_3)).2.1 ∧ (ur (upd g0_c7 (1596 : Int32).toNatClampNeg v3_3)).2.1 ≤ 12 from by omega) (tpA_in (by rw [f_5, f_3.1, f_2]; rfl) hu0 (by decide)) (Nat.lt_succ_self _) (hP.sub [0, 1, 2] rfl) (hD.sub [0, 1, 2] (by decide) rfl) hS (lv_sub hl [0, 1] rfl)
            · subst e_5
              have f_5 : tfa (tS (tbr tbf le.toInt) (59 : Int) (0, v3_0.toInt, v3_2.toInt, v3_1.toInt)) v5_0.toInt v5_2.toInt := f_5
              refine lv_if_ne (tgt := 74) hx hb dX8_isLand_69 (by decide) (fun c9 => absurd (by decide) c9) (fun _ => ?_)
              refine lv_iconst (v := 0) hx hb dX8_isLand_72 (by decide) ?_
              exact wr_z (v := 0) hx hb hr hlocks hS (v5_0, v5_1, v5_2, v3_3, (upd g0_c7 (1596 : Int32).toNatClampNeg v3_3)) (by exact ⟨Or.inr (⟨rfl, show (tpA (tbr tbf le.toInt) le.toInt fu.toInt pp.toInt).1.1 = 1 ∧ (tpA (tbr tbf le.toInt) le.toInt fu.toInt pp.toInt).1.2.1 = v5_0.toInt ∧ (tpA (tbr tbf le.toInt) le.toInt fu.toInt pp.toInt).1.2.2.1 = v5_2.toInt from tfa_1 (tpA_f (by show tfa (tS (tbr tbf le.toInt) 59 (tN (tbr tbf le.toInt) 1 9 (tS (tbr tbf le.toInt) 102 (0, fu.toInt, pp.toInt, 0)))) _ _; rw [← f_2, ← f_3.1]; exact f_5))⟩), show 0 ≤ (v5_1 : Int32).toInt ∧ (v5_1 : Int32).toInt ≤ 120 from by omega, show 0 ≤ (v5_2 : Int32).toInt ∧ (v5_2 : Int32).toInt ≤ 120 from by omega, ha_4⟩) (hP.sub [1, 0, 2] rfl) (hD.sub [1, 0, 2] (by decide) rfl) dX8_isLand_73 rfl
          · subst e_3
            have f_3 : tfa (tN (tbr tbf le.toInt) (1 : Int) (9 : Int) (0, v2_0.toInt, v2_2.toInt, v2_1.toInt)) v3_0.toInt v3_2.toInt := f_3
            refine lv_if_ne (tgt := 51) hx hb dX8_isLand_46 (by decide) (fun c9 => absurd (by decide) c9) (fun _ => ?_)
            refine lv_iconst (v := 0) hx hb dX8_isLand_49 (by decide) ?_
            exact wr_z (v := 0) hx hb hr hlocks hS (v3_0, v3_1, v3_2, v3_3, g0_c7) (by exact ⟨Or.inr (⟨rfl, show (tpA (tbr tbf le.toInt) le.toInt fu.toInt pp.toInt).1.1 = 1 ∧ (tpA (tbr tbf le.toInt) le.toInt fu.toInt pp.toInt).1.2.1 = v3_0.toInt ∧ (tpA (tbr tbf le.toInt) le.toInt fu.toInt pp.toInt).1.2.2.1 = v3_2.toInt from tfa_1 (tpA_f (by show tfa (tS (tbr tbf le.toInt) 59 (tN (tbr tbf le.toInt) 1 9 (tS (tbr tbf le.toInt) 102 (0, fu.toInt, pp.toInt, 0)))) _ _; rw [← f_2]; exact tfa_S (f_3)))⟩), show 0 ≤ (v3_1 : Int32).toInt ∧ (v3_1 : Int32).toInt ≤ 120 from by omega, show 0 ≤ (v3_2 : Int32).toInt ∧ (v3_2 : Int32).toInt ≤ 120 from by omega, ha_g0_c7⟩) (hP.sub [1, 0, 2] rfl) (hD.sub [1, 0, 2] (by decide) rfl) dX8_isLand_50 rfl
        · subst e_2
          have f_2 : tfa (tS (tbr tbf le.toInt) (102 : Int) (0, fu.toInt, pp.toInt, (0 : Int))) v2_0.toInt v2_2.toInt := f_2
          refine lv_if_eq (tgt := 49) hx hb dX8_isLand_36 (by decide) (fun _ => ?_) (fun c9 => absurd (by decide) c9)
          refine lv_iconst (v := 0) hx hb dX8_isLand_49 (by decide) ?_
          exact wr_z (v := 0) hx hb hr hlocks hS (v2_0, v2_1, v2_2, nm, g0_c7) (by exact ⟨Or.inr (⟨rfl, show (tpA (tbr tbf le.toInt) le.toInt fu.toInt pp.toInt).1.1 = 1 ∧ (tpA (tbr tbf le.toInt) le.toInt fu.toInt pp.toInt).1.2.1 = v2_0.toInt ∧ (tpA (tbr tbf le.toInt) le.toInt fu.toInt pp.toInt).1.2.2.1 = v2_2.toInt from tfa_1 (tpA_f (by show tfa (tS (tbr tbf le.toInt) 59 (tN (tbr tbf le.toInt) 1 9 (tS (tbr tbf le.toInt) 102 (0, fu.toInt, pp.toInt, 0)))) _ _; exact tfa_S (tfa_N (f_2))))⟩), show 0 ≤ (v2_1 : Int32).toInt ∧ (v2_1 : Int32).toInt ≤ 120 from by omega, show 0 ≤ (v2_2 : Int32).toInt ∧ (v2_2 : Int32).toInt ≤ 120 from by omega, ha_g0_c7⟩) (hP.sub [1, 0, 2] rfl) (hD.sub [1, 0, 2] (by decide) rfl) dX8_isLand_50 rfl
      · have f_1 : ¬ 57 ≤ t1_c7.toInt := zi_nle c_1
        refine lv_aload_n hx hb dX8_isLand_13 rfl (lv_at hl 1 rfl) ?_
        refine va_get (D := D) (ci := 7) (v := .ref sl) (C := RX8) (T := TX8) (N := 16) hx hb hts (fun _ h => List.mem_cons_of_mem _ (List.mem_append_right _ h)) hown hK hP 0 rfl rfl 0 (by decide) (hts (.fieldLink RX8 7 "WinterWalkModel" "slot" "[I") (List.mem_of_getElem? (i := 2) rfl)) (fun _ h9 => h9) rfl dX8_isLand_14 ?_
        refine lv_sipush (v := 1596) hx hb dX8_isLand_17 (by decide) ?_
        refine lv_iload_n hx hb dX8_isLand_20 rfl (lv_at hl 0 rfl) ?_
        refine lv_iadd hx hb dX8_isLand_21 ?_
        refine lv_topi (fun x_99 ex_99 => ?_)
        have e_99 : x_99.toInt = 1596 + t1_c7.toInt := by rw [ex_99]; exact zi_add (by decide) (rfl) (by omega) (by omega)
        clear ex_99
        refine lv_iconst (v := 0) hx hb dX8_isLand_22 (by decide) ?_
        refine va_iast hx hb hK hP hD hS 1 0 rfl rfl (zi_in (by omega) (by omega)) dX8_isLand_23 (fun H locs hP hD hS => ?_)
        have hP : va_P D kl [(h, .inr (7, [.ref sl, .int na, .ref zs, .ref ln, .ref ir, .ref tk, .int su, .int le, .ref tb, .int fu, .int 0, .int pp, .ref tr, .int tc, .ref fz, .int nm])), (sl, .inl (cI, 1653, .inl (upd g0_c7 (x_99 : Int32).toNatClampNeg 0))), (tb, .inl (cB, 120, .inl tbf))] H := hP
        have hD : va_D A [(h, .inr (7, [.ref sl, .int na, .ref zs, .ref ln, .ref ir, .ref tk, .int su, .int le, .ref tb, .int fu, .int 0, .int pp, .ref tr, .int tc, .ref fz, .int nm])), (sl, .inl (cI, 1653, .inl (upd g0_c7 (x_99 : Int32).toNatClampNeg 0))), (tb, .inl (cB, 120, .inl tbf))] := hD
        have ha_100 : SI (upd g0_c7 (x_99 : Int32).toNatClampNeg 0) v0 := si_up ha_g0_c7 (by omega) (fun s0 a0 b0 e0 => by first | decide | omega) (fun s0 a0 b0 e0 => by first | decide | omega) (fun s0 k0 a0 b0 c0 d0 e0 => by first | decide | omega) (by omega)
        obtain ⟨x_101, ex_101⟩ : ∃ y : Int32, y = t1_c7 + Int32.ofInt 1 := ⟨_, rfl⟩
        refine lv_iinc (v := x_101) (lv' := [(1, .int x_101), (0, .ref h)]) hx hb dX8_isLand_24 hl (k := 0) rfl ex_101.symm (by decide) rfl (fun ls hl => ?_)
        have ex_101 : x_101 = t1_c7 + 1 := ex_101
        have e_101 : x_101.toInt = t1_c7.toInt + 1 := by rw [ex_101]; exact zi_add (rfl) (by decide) (by omega) (by omega)
        clear ex_101
        refine lv_goto (tgt := 7) hx hb dX8_isLand_27 (by decide) ?_
        exact ih7 x_101 (upd g0_c7 (x_99 : Int32).toNatClampNeg 0) _ _ _ (show 0 ≤ x_101.toInt ∧ x_101.toInt ≤ 57 from by omega) ha_100 (fun q hq => zfz q0_c7 (by omega) (by omega) hq (by omega)) (by omega) (hP.sub [0, 1, 2] rfl) (hD.sub [0, 1, 2] (by decide) rfl) hS (lv_sub hl [0, 1] rfl)
  exact hL7 (((57 - (0 : Int32).toInt).toNat) + 1) 0 sf _ _ _ (show 0 ≤ 0 ∧ 0 ≤ 57 from by omega) hsi (fun q hq => absurd hq (by have h7 : (0 : Int32).toInt = 0 := (by decide); omega)) (Nat.lt_succ_self _) (hP.sub [0, 1, 2] rfl) (hD.sub [0, 1, 2] (by decide) rfl) hS (lv_sub hl [0, 1] rfl)
set_option maxHeartbeats 4000000 in
set_option maxRecDepth 100000 in
theorem p_X8_copies0 (l : Launch) (D : va_G) (cI cB cQ : ClassId) (sz : Nat) (h : Nat) (sl : Nat) (zs : Nat) (ln : Nat) (ir : Nat) (tk : Nat) (tb : Nat) (tr : Nat) (fz : Nat) (na : Int32) (su : Int32) (le : Int32) (fu : Int32) (ap : Int32) (pp : Int32) (tc : Int32) (nm : Int32) (a : Int32) (sf : Nat → Int32) (v0 : Int) (hsi : SI sf v0) (h_a : 1 ≤ a.toInt ∧ a.toInt ≤ 28) : mv l yX8_copies wsX8_copies ({ frames := 0, cells := 0, slots := 0, locals := 0 }) D cI cB cQ [.ref h, .int a, .int 0] sz [(h, .inr (7, [.ref sl, .int na, .ref zs, .ref ln, .ref ir, .ref tk, .int su, .int le, .ref tb, .int fu, .int ap, .int pp, .ref tr, .int tc, .ref fz, .int nm])), (sl, .inl (cI, 1653, .inl sf))] (fun (u : (Nat → Int32)) => (∀ q : Nat, q < 57 → u q = sf (57 * a.toInt.toNat + q)) ∧ (SI u ((u 1).toInt))) (fun u => [(h, .inr (7, [.ref sl, .int na, .ref zs, .ref ln, .ref ir, .ref tk, .int su, .int le, .ref tb, .int fu, .int ap, .int pp, .ref tr, .int tc, .ref fz, .int nm])), (sl, .inl (cI, 1653, .inl u))]) 0 0 := by
  refine wm_v (cc := cX8_copies) (maxL := 4) (ret := none) (by decide) rfl (Nat.le_of_ble_eq_true rfl) ?_
  intro p e s m below meth c A ls hx hb hr hml hown hts hlocks hin hP hK hD hN hA hl hS
  have hown : s.vm.findClass RX8 = some m.cls := hown
  have hl : lv_has ls 4 [(0, .ref h), (1, .int a), (2, .int 0)] := hl
  change W p l e ({ frames := 0, cells := 0, slots := 0, locals := 0 }) s m ([.ref h, .int a, .int 0] : List Value).toArray below meth c s.heap [] 0 0 (MQ below (va_Qv (fun (u : (Nat → Int32)) => (∀ q : Nat, q < 57 → u q = sf (57 * a.toInt.toNat + q)) ∧ (SI u ((u 1).toInt))) (fun u t => wb D A ((fun u => [(h, .inr (7, [.ref sl, .int na, .ref zs, .ref ln, .ref ir, .ref tk, .int su, .int le, .ref tb, .int fu, .int ap, .int pp, .ref tr, .int tc, .ref fz, .int nm])), (sl, .inl (cI, 1653, .inl u))]) u) t) A) ([.ref h, .int a, .int 0] : List Value).toArray s 0 0 A) (F0 m 0 ls [])
  refine lv_iconst (v := 0) hx hb dX8_copies_0 (by decide) ?_
  refine lv_istore_n (lv' := [(3, .int 0), (0, .ref h), (1, .int a), (2, .int 0)]) hx hb dX8_copies_1 rfl hl (by decide) rfl (fun ls hl => ?_)
  have hL2 : ∀ (nf : Nat) (t3_c2 : Int32) (g0_c2 : Nat → Int32) (H : Heap) (locs : List Loc) (ls : Array Slot), (0 ≤ t3_c2.toInt ∧ t3_c2.toInt ≤ 57) → (SI g0_c2 ((g0_c2 1).toInt)) → (∀ q : Nat, (q : Int) < t3_c2.toInt → g0_c2 q = sf (57 * a.toInt.toNat + q)) → (∀ q : Nat, 57 ≤ q → g0_c2 q = sf q) → (57 - t3_c2.toInt).toNat < nf → va_P D kl [(h, .inr (7, [.ref sl, .int na, .ref zs, .ref ln, .ref ir, .ref tk, .int su, .int le, .ref tb, .int fu, .int ap, .int pp, .ref tr, .int tc, .ref fz, .int nm])), (sl, .inl (cI, 1653, .inl g0_c2))] H → va_D A [(h, .inr (7, [.ref sl, .int na, .ref zs, .ref ln, .ref ir, .ref tk, .int su, .int le, .ref tb, .int fu, .int ap, .int pp, .ref tr, .int tc, .ref fz, .int nm])), (sl, .inl (cI, 1653, .inl g0_c2))] → va_S A s.heap H locs → lv_has ls 4 [(3, .int t3_c2), (0, .ref h), (1, .int a), (2, .int 0)] → W p l e ({ frames := 0, cells := 0, slots := 0, locals := 0 }) s m ([.ref h, .int a, .int 0] : List Value).toArray below meth c H locs 0 0 (MQ below (va_Qv (fun (u : (Nat → Int32)) => (∀ q : Nat, q < 57 → u q = sf (57 * a.toInt.toNat + q)) ∧ (SI u ((u 1).toInt))) (fun u t => wb D A ((fun u => [(h, .inr (7, [.ref sl, .int na, .ref zs, .ref ln, .ref ir, .ref tk, .int su, .int le, .ref tb, .int fu, .int ap, .int pp, .ref tr, .int tc, .ref fz, .int nm])), (sl, .inl (cI, 1653, .inl u))]) u) t) A) ([.ref h, .int a, .int 0] : List Value).toArray s 0 0 A) (F0 m 2 ls []) := by
    intro nf
    induction nf with
    | zero =>
      intro t3_c2 g0_c2 H locs ls i_t3_c2 ha_g0_c2 q0_c2 q1_c2 hm
      exact absurd hm (Nat.not_lt_zero _)
    | succ nf ih2 =>
      intro t3_c2 g0_c2 H locs ls i_t3_c2 ha_g0_c2 q0_c2 q1_c2 hm2 hP hD hS hl
      refine lv_iload_n hx hb dX8_copies_2 rfl (lv_at hl 0 rfl) ?_
      refine lv_bipush (v := 57) hx hb dX8_copies_3 (by decide) ?_
      refine lv_icmp_ge (tgt := 36) hx hb dX8_copies_5 (by decide) (fun c_1 => ?_) (fun c_1 => ?_)
      · have f_1 : 57 ≤ t3_c2.toInt := zi_le c_1
        exact wr_v hx hb hr hlocks hS g0_c2 (by exact ⟨show ∀ q : Nat, q < 57 → g0_c2 q = sf (57 * a.toInt.toNat + q) from fun q hq => q0_c2 q (by omega), SI.self ha_g0_c2⟩) (hP.sub [0, 1] rfl) (hD.sub [0, 1] (by decide) rfl) dX8_copies_36
      · have f_1 : ¬ 57 ≤ t3_c2.toInt := zi_nle c_1
        refine lv_aload_n hx hb dX8_copies_8 rfl (lv_at hl 1 rfl) ?_
        refine va_get (D := D) (ci := 7) (v := .ref sl) (C := RX8) (T := TX8) (N := 16) hx hb hts (fun _ h => List.mem_cons_of_mem _ (List.mem_append_right _ h)) hown hK hP 0 rfl rfl 0 (by decide) (hts (.fieldLink RX8 7 "WinterWalkModel" "slot" "[I") (List.mem_of_getElem? (i := 1) rfl)) (fun _ h9 => h9) rfl dX8_copies_9 ?_
        refine lv_iload_n hx hb dX8_copies_12 rfl (lv_at hl 3 rfl) ?_
        refine lv_bipush (v := 57) hx hb dX8_copies_13 (by decide) ?_
        refine lv_imul hx hb dX8_copies_15 ?_
        refine lv_topi (fun x_2 ex_2 => ?_)
        obtain rfl : x_2 = 0 := ex_2.trans (by decide)
        refine lv_iload_n hx hb dX8_copies_16 rfl (lv_at hl 0 rfl) ?_
        refine lv_iadd hx hb dX8_copies_17 ?_
        refine lv_topi (fun x_3 ex_3 => ?_)
        have e_3 : x_3.toInt = 0 + t3_c2.toInt := by rw [ex_3]; exact zi_add (by decide) (rfl) (by omega) (by omega)
        clear ex_3
        refine lv_aload_n hx hb dX8_copies_18 rfl (lv_at hl 1 rfl) ?_
        refine va_get (D := D) (ci := 7) (v := .ref sl) (C := RX8) (T := TX8) (N := 16) hx hb hts (fun _ h => List.mem_cons_of_mem _ (List.mem_append_right _ h)) hown hK hP 0 rfl rfl 0 (by decide) (hts (.fieldLink RX8 7 "WinterWalkModel" "slot" "[I") (List.mem_of_getElem? (i := 1) rfl)) (fun _ h9 => h9) rfl dX8_copies_19 ?_
        refine lv_iload_n hx hb dX8_copies_22 rfl (lv_at hl 2 rfl) ?_
        refine lv_bipush (v := 57) hx hb dX8_copies_23 (by decide) ?_
        refine lv_imul hx hb dX8_copies_25 ?_
        refine lv_topi (fun x_4 ex_4 => ?_)
        have e_4 : x_4.toInt = a.toInt * 57 := by rw [ex_4]; exact zi_mul (rfl) (by decide) (by omega) (by omega)
        clear ex_4
        refine lv_iload_n hx hb dX8_copies_26 rfl (lv_at hl 0 rfl) ?_
        refine lv_iadd hx hb dX8_copies_27 ?_
        refine lv_topi (fun x_5 ex_5 => ?_)
        have e_5 : x_5.toInt = x_4.toInt + t3_c2.toInt := by rw [ex_5]; exact zi_add (rfl) (rfl) (by omega) (by omega)
        clear ex_5
        refine va_iald hx hb hK hP 1 0 rfl rfl (zi_in (by omega) (by omega)) dX8_copies_28 ?_
        refine lv_topi (fun x_6 ex_6 => ?_)
        have f_6 := si_g ha_g0_c2 (i := x_5) (s := a.toInt) (k := t3_c2.toInt) (by omega) (by omega) (by omega)
        rw [← ex_6] at f_6
        refine va_iast hx hb hK hP hD hS 1 0 rfl rfl (zi_in (by omega) (by omega)) dX8_copies_29 (fun H locs hP hD hS => ?_)
        have hP : va_P D kl [(h, .inr (7, [.ref sl, .int na, .ref zs, .ref ln, .ref ir, .ref tk, .int su, .int le, .ref tb, .int fu, .int ap, .int pp, .ref tr, .int tc, .ref fz, .int nm])), (sl, .inl (cI, 1653, .inl (upd g0_c2 (x_3 : Int32).toNatClampNeg x_6)))] H := hP
        have hD : va_D A [(h, .inr (7, [.ref sl, .int na, .ref zs, .ref ln, .ref ir, .ref tk, .int su, .int le, .ref tb, .int fu, .int ap, .int pp, .ref tr, .int tc, .ref fz, .int nm])), (sl, .inl (cI, 1653, .inl (upd g0_c2 (x_3 : Int32).toNatClampNeg x_6)))] := hD
        have ha_7 : SI (upd g0_c2 (x_3 : Int32).toNatClampNeg x_6) (((upd g0_c2 (x_3 : Int32).toNatClampNeg x_6) 1).toInt) := ⟨sb_up ha_g0_c2.1 (by omega) (fun s0 a0 b0 e0 => by omega) (fun s0 a0 b0 e0 => by omega) (fun s0 k0 a0 b0 c0 d0 e0 => by omega), rfl⟩
        obtain ⟨x_8, ex_8⟩ : ∃ y : Int32, y = t3_c2 + Int32.ofInt 1 := ⟨_, rfl⟩
        refine lv_iinc (v := x_8) (lv' := [(3, .int x_8), (0, .ref h), (1, .int a), (2, .int 0)]) hx hb dX8_copies_30 hl (k := 0) rfl ex_8.symm (by decide) rfl (fun ls hl => ?_)
        have ex_8 : x_8 = t3_c2 + 1 := ex_8
        have e_8 : x_8.toInt = t3_c2.toInt + 1 := by rw [ex_8]; exact zi_add (rfl) (by decide) (by omega) (by omega)
        clear ex_8
        refine lv_goto (tgt := 2) hx hb dX8_copies_33 (by decide) ?_
        exact ih2 x_8 (upd g0_c2 (x_3 : Int32).toNatClampNeg x_6) _ _ _ (show 0 ≤ x_8.toInt ∧ x_8.toInt ≤ 57 from by omega) (SI.self ha_7) (fun q hq => zfm q0_c2 (by omega) (by omega) (by rw [ex_6]; exact zfm2 q1_c2 (by omega) (by omega) (by omega)) hq (by omega)) (zfm3 q1_c2 (by omega) (by omega)) (by omega) (hP.sub [0, 1] rfl) (hD.sub [0, 1] (by decide) rfl) hS (lv_sub hl [0, 1, 2, 3] rfl)
  exact hL2 (((57 - (0 : Int32).toInt).toNat) + 1) 0 sf _ _ _ (show 0 ≤ 0 ∧ 0 ≤ 57 from by omega) (SI.self hsi) (fun q hq => absurd hq (by have h7 : (0 : Int32).toInt = 0 := (by decide); omega)) (fun q _ => rfl) (Nat.lt_succ_self _) (hP.sub [0, 1] rfl) (hD.sub [0, 1] (by decide) rfl) hS (lv_sub hl [0, 1, 2, 3] rfl)
set_option maxHeartbeats 4000000 in
set_option maxRecDepth 100000 in
theorem p_X8_land (l : Launch) (D : va_G) (cI cB cQ : ClassId) (sz : Nat) (h : Nat) (sl : Nat) (zs : Nat) (ln : Nat) (ir : Nat) (tk : Nat) (tb : Nat) (tr : Nat) (fz : Nat) (na : Int32) (su : Int32) (le : Int32) (fu : Int32) (ap : Int32) (pp : Int32) (tc : Int32) (nm : Int32) (sf : Nat → Int32) (tbf : Nat → Int32) (v0 : Int) (hsi : SI sf v0) (h_na : 0 ≤ na.toInt ∧ na.toInt ≤ 24) (h_le : 0 ≤ le.toInt ∧ le.toInt ≤ 120) (h_ap : 0 ≤ ap.toInt ∧ ap.toInt ≤ 120) (h_tc : 0 ≤ tc.toInt ∧ tc.toInt ≤ 16) (h_pp : 0 ≤ pp.toInt ∧ pp.toInt ≤ 120) : mi l yX8_land wsX8_land ({ frames := 4, cells := 0, slots := 0, locals := 97 }) D cI cB cQ [.ref h] sz [(h, .inr (7, [.ref sl, .int na, .ref zs, .ref ln, .ref ir, .ref tk, .int su, .int le, .ref tb, .int fu, .int ap, .int pp, .ref tr, .int tc, .ref fz, .int nm])), (sl, .inl (cI, 1653, .inl sf)), (tb, .inl (cB, 120, .inl tbf))] (fun (r : Int32) (u : Int32 × Int32 × Int32 × Int32 × Int32 × Int32 × (Nat → Int32)) => (u.2.1.toInt = 0) ∧ (u.2.2.1.toInt = (tpA (tbr tbf le.toInt) le.toInt fu.toInt pp.toInt).1.2.1 ∧ u.2.2.2.2.1.toInt = (tpA (tbr tbf le.toInt) le.toInt fu.toInt pp.toInt).1.2.2.1) ∧ (((tpA (tbr tbf le.toInt) le.toInt fu.toInt pp.toInt).1.1 = 0 ∧ r.toInt = (tpA (tbr tbf le.toInt) le.toInt fu.toInt pp.toInt).2.1) ∨ (¬ (tpA (tbr tbf le.toInt) le.toInt fu.toInt pp.toInt).1.1 = 0 ∧ r.toInt = (-1000100) - (tpA (tbr tbf le.toInt) le.toInt fu.toInt pp.toInt).1.2.2.1)) ∧ (0 ≤ u.1.toInt ∧ u.1.toInt ≤ 24) ∧ (0 ≤ u.2.1.toInt ∧ u.2.1.toInt ≤ 120) ∧ (0 ≤ u.2.2.2.1.toInt ∧ u.2.2.2.1.toInt ≤ 120) ∧ (0 ≤ u.2.2.2.2.1.toInt ∧ u.2.2.2.2.1.toInt ≤ 120) ∧ (SI u.2.2.2.2.2.2 ((u.2.2.2.2.2.2 1).toInt))) (fun u => [(h, .inr (7, [.ref sl, .int u.1, .ref zs, .ref ln, .ref ir, .ref tk, .int su, .int u.2.1, .ref tb, .int u.2.2.1, .int u.2.2.2.1, .int u.2.2.2.2.1, .ref tr, .int tc, .ref fz, .int u.2.2.2.2.2.1])), (sl, .inl (cI, 1653, .inl u.2.2.2.2.2.2)), (tb, .inl (cB, 120, .inl tbf))]) 0 0 := by
  refine wm_i (cc := cX8_land) (maxL := 2) (ret := (some .int)) (by decide) rfl (Nat.le_of_ble_eq_true rfl) ?_
  intro p e s m below meth c A ls hx hb hr hml hown hts hlocks hin hP hK hD hN hA hl hS
  have hown : s.vm.findClass RX8 = some m.cls := hown
  have hl : lv_has ls 2 [(0, .ref h)] := hl
  change W p l e ({ frames := 4, cells := 0, slots := 0, locals := 97 }) s m ([.ref h] : List Value).toArray below meth c s.heap [] 0 0 (MQ below (va_Qi (fun (r : Int32) (u : Int32 × Int32 × Int32 × Int32 × Int32 × Int32 × (Nat → Int32)) => (u.2.1.toInt = 0) ∧ (u.2.2.1.toInt = (tpA (tbr tbf le.toInt) le.toInt fu.toInt pp.toInt).1.2.1 ∧ u.2.2.2.2.1.toInt = (tpA (tbr tbf le.toInt) le.toInt fu.toInt pp.toInt).1.2.2.1) ∧ (((tpA (tbr tbf le.toInt) le.toInt fu.toInt pp.toInt).1.1 = 0 ∧ r.toInt = (tpA (tbr tbf le.toInt) le.toInt fu.toInt pp.toInt).2.1) ∨ (¬ (tpA (tbr tbf le.toInt) le.toInt fu.toInt pp.toInt).1.1 = 0 ∧ r.toInt = (-1000100) - (tpA (tbr tbf le.toInt) le.toInt fu.toInt pp.toInt).1.2.2.1)) ∧ (0 ≤ u.1.toInt ∧ u.1.toInt ≤ 24) ∧ (0 ≤ u.2.1.toInt ∧ u.2.1.toInt ≤ 120) ∧ (0 ≤ u.2.2.2.1.toInt ∧ u.2.2.2.1.toInt ≤ 120) ∧ (0 ≤ u.2.2.2.2.1.toInt ∧ u.2.2.2.2.1.toInt ≤ 120) ∧ (SI u.2.2.2.2.2.2 ((u.2.2.2.2.2.2 1).toInt))) (fun u t => wb D A ((fun u => [(h, .inr (7, [.ref sl, .int u.1, .ref zs, .ref ln, .ref ir, .ref tk, .int su, .int u.2.1, .ref tb, .int u.2.2.1, .int u.2.2.2.1, .int u.2.2.2.2.1, .ref tr, .int tc, .ref fz, .int u.2.2.2.2.2.1])), (sl, .inl (cI, 1653, .inl u.2.2.2.2.2.2)), (tb, .inl (cB, 120, .inl tbf))]) u) t) A) ([.ref h] : List Value).toArray s 0 0 A) (F0 m 0 ls [])
  refine lv_aload_n hx hb dX8_land_0 rfl (lv_at hl 0 rfl) ?_
  have k_1 := (p_X8_isLand l D cI cB cQ s.heap.size h sl zs ln ir tk tb tr fz na su le fu ap pp tc nm sf tbf v0 hsi (by omega) (by omega) (by omega) (by omega) (by omega))
  refine wc_i (WC := [(h, .inr (7, [.ref sl, .int na, .ref zs, .ref ln, .ref ir, .ref tk, .int su, .int le, .ref tb, .int fu, .int ap, .int pp, .ref tr, .int tc, .ref fz, .int nm])), (sl, .inl (cI, 1653, .inl sf)), (tb, .inl (cB, 120, .inl tbf))]) (WR := []) (va_runV (As := []) (rest := []) ⟨hx, hb, hml, hown, hts⟩ k_1 (cwV 0 hts gX8_land_X8_isLand rfl rfl rfl (by decide +kernel) ⟨Nat.le_of_ble_eq_true rfl, Nat.le_of_ble_eq_true rfl⟩) (wp_V hP hK hD hN [0, 1, 2] (by decide) rfl (ci := 7) rfl rfl) rfl rfl hl.1 rfl (lv_room (Nat.le_of_ble_eq_true rfl)) dX8_land_1 ⟨Nat.le_of_ble_eq_true rfl, Nat.le_of_ble_eq_true rfl⟩) hP hD hS hA [0, 1, 2] [] rfl rfl (by decide) (by decide) (fun r_1 => pe5 (fun v1_0 v1_1 v1_2 v1_3 v1_4 H locs hw_1 hP hD hS => ?_))
  clear k_1
  have hP : va_P D kl [(h, .inr (7, [.ref sl, .int na, .ref zs, .ref ln, .ref ir, .ref tk, .int su, .int le, .ref tb, .int v1_0, .int v1_1, .int v1_2, .ref tr, .int tc, .ref fz, .int v1_3])), (sl, .inl (cI, 1653, .inl v1_4)), (tb, .inl (cB, 120, .inl tbf))] H := hP
  have hD : va_D A [(h, .inr (7, [.ref sl, .int na, .ref zs, .ref ln, .ref ir, .ref tk, .int su, .int le, .ref tb, .int v1_0, .int v1_1, .int v1_2, .ref tr, .int tc, .ref fz, .int v1_3])), (sl, .inl (cI, 1653, .inl v1_4)), (tb, .inl (cB, 120, .inl tbf))] := hD
  obtain ⟨c1_0, c1_1, c1_2, c1_3⟩ := hw_1
  have c1_1 : 0 ≤ v1_1.toInt ∧ v1_1.toInt ≤ 120 := c1_1
  have c1_2 : 0 ≤ v1_2.toInt ∧ v1_2.toInt ≤ 120 := c1_2
  have c1_3 : SI v1_4 v0 := c1_3
  rcases c1_0 with ⟨e_1, f_1⟩ | ⟨e_1, f_1⟩
  · subst e_1
    have f_1 : ((tpA (tbr tbf le.toInt) le.toInt fu.toInt pp.toInt).1.1 = 0 ∧ (tpA (tbr tbf le.toInt) le.toInt fu.toInt pp.toInt).1.2.1 = v1_0.toInt ∧ (tpA (tbr tbf le.toInt) le.toInt fu.toInt pp.toInt).1.2.2.1 = v1_2.toInt ∧ (tpA (tbr tbf le.toInt) le.toInt fu.toInt pp.toInt).2.1 = (ur v1_4).1) ∧ ((((0, v1_0.toInt, v1_2.toInt, v1_1.toInt) : TPS), ur v1_4) : TPT) = (tpA (tbr tbf le.toInt) le.toInt fu.toInt pp.toInt) := f_1
    refine lv_istore_n (lv' := [(1, .int 1), (0, .ref h)]) hx hb dX8_land_4 rfl hl (by decide) rfl (fun ls hl => ?_)
    refine lv_aload_n hx hb dX8_land_5 rfl (lv_at hl 1 rfl) ?_
    refine lv_iconst (v := 0) hx hb dX8_land_6 (by decide) ?_
    refine va_put (D := D) (ci := 7) (v := .int 0) (ty := .int) (C := RX8) (T := TX8) (N := 16) hx hb hts (fun _ h => List.mem_cons_of_mem _ (List.mem_append_right _ h)) tyX8 tyX8_ok nmX8 hown hK hP hD hS 0 rfl rfl 7 (by decide) (hts (.fieldLink RX8 58 "WinterWalkModel" "length" "I") (List.mem_of_getElem? (i := 1) rfl)) (fun _ h9 => h9) rfl (by decide +kernel) rfl rfl (Nat.le_of_ble_eq_true rfl) dX8_land_7 (fun H locs hP hD hS => ?_)
    have hP : va_P D kl [(h, .inr (7, [.ref sl, .int na, .ref zs, .ref ln, .ref ir, .ref tk, .int su, .int 0, .ref tb, .int v1_0, .int v1_1, .int v1_2, .ref tr, .int tc, .ref fz, .int v1_3])), (sl, .inl (cI, 1653, .inl v1_4)), (tb, .inl (cB, 120, .inl tbf))] H := hP
    have hD : va_D A [(h, .inr (7, [.ref sl, .int na, .ref zs, .ref ln, .ref ir, .ref tk, .int su, .int 0, .ref tb, .int v1_0, .int v1_1, .int v1_2, .ref tr, .int tc, .ref fz, .int v1_3])), (sl, .inl (cI, 1653, .inl v1_4)), (tb, .inl (cB, 120, .inl tbf))] := hD
    refine lv_iload_n hx hb dX8_land_10 rfl (lv_at hl 0 rfl) ?_
    refine lv_if_ne (tgt := 22) hx hb dX8_land_11 (by decide) (fun _ => ?_) (fun c9 => absurd c9 (by decide))
    refine lv_aload_n hx hb dX8_land_22 rfl (lv_at hl 1 rfl) ?_
    refine lv_bipush (v := 28) hx hb dX8_land_23 (by decide) ?_
    refine lv_iconst (v := 0) hx hb dX8_land_25 (by decide) ?_
    have k_2 := (p_X8_copies0 l D cI cB cQ H.size h sl zs ln ir tk tb tr fz na su 0 v1_0 v1_1 v1_2 tc v1_3 28 v1_4 v0 c1_3 ⟨by decide, by decide⟩)
    refine wc_v (WC := [(h, .inr (7, [.ref sl, .int na, .ref zs, .ref ln, .ref ir, .ref tk, .int su, .int 0, .ref tb, .int v1_0, .int v1_1, .int v1_2, .ref tr, .int tc, .ref fz, .int v1_3])), (sl, .inl (cI, 1653, .inl v1_4))]) (WR := [(tb, .inl (cB, 120, .inl tbf))]) (va_runV (As := [.int 28, .int 0]) (rest := []) ⟨hx, hb, hml, hown, hts⟩ k_2 (cwV 2 hts gX8_land_X8_copies rfl rfl rfl (by decide +kernel) ⟨Nat.le_of_ble_eq_true rfl, Nat.le_of_ble_eq_true rfl⟩) (wp_V hP hK hD hN [0, 1] (by decide) rfl (ci := 7) rfl rfl) rfl rfl hl.1 rfl (lv_room (Nat.le_of_ble_eq_true rfl)) dX8_land_26 ⟨Nat.le_of_ble_eq_true rfl, Nat.le_of_ble_eq_true rfl⟩) hP hD hS hA [0, 1] [2] rfl rfl (by decide) (by decide) (fun u_2 H locs hw_2 hP hD hS => ?_)
    clear k_2
    have hP : va_P D kl [(tb, .inl (cB, 120, .inl tbf)), (h, .inr (7, [.ref sl, .int na, .ref zs, .ref ln, .ref ir, .ref tk, .int su, .int 0, .ref tb, .int v1_0, .int v1_1, .int v1_2, .ref tr, .int tc, .ref fz, .int v1_3])), (sl, .inl (cI, 1653, .inl u_2))] H := hP
    have hD : va_D A [(tb, .inl (cB, 120, .inl tbf)), (h, .inr (7, [.ref sl, .int na, .ref zs, .ref ln, .ref ir, .ref tk, .int su, .int 0, .ref tb, .int v1_0, .int v1_1, .int v1_2, .ref tr, .int tc, .ref fz, .int v1_3])), (sl, .inl (cI, 1653, .inl u_2))] := hD
    obtain ⟨c2_0, c2_1⟩ := hw_2
    have c2_0 : ∀ q : Nat, q < 57 → u_2 q = v1_4 (57 * (28 : Int).toNat + q) := c2_0
    have c2_1 : SI u_2 ((u_2 1).toInt) := c2_1
    have hc_2 : (u_2 1).toInt = (ur v1_4).1 := congrArg Int32.toInt ((c2_0 1 (by decide)).trans (by rw [show 57 * (28 : Int).toNat + 1 = 1597 from by decide]))
    refine lv_aload_n hx hb dX8_land_29 rfl (lv_at hl 1 rfl) ?_
    refine lv_iconst (v := 0) hx hb dX8_land_30 (by decide) ?_
    refine va_put (D := D) (ci := 7) (v := .int 0) (ty := .int) (C := RX8) (T := TX8) (N := 16) hx hb hts (fun _ h => List.mem_cons_of_mem _ (List.mem_append_right _ h)) tyX8 tyX8_ok nmX8 hown hK hP hD hS 1 rfl rfl 1 (by decide) (hts (.fieldLink RX8 118 "WinterWalkModel" "acts" "I") (List.mem_of_getElem? (i := 4) rfl)) (fun _ h9 => h9) rfl (by decide +kernel) rfl rfl (Nat.le_of_ble_eq_true rfl) dX8_land_31 (fun H locs hP hD hS => ?_)
    have hP : va_P D kl [(tb, .inl (cB, 120, .inl tbf)), (h, .inr (7, [.ref sl, .int 0, .ref zs, .ref ln, .ref ir, .ref tk, .int su, .int 0, .ref tb, .int v1_0, .int v1_1, .int v1_2, .ref tr, .int tc, .ref fz, .int v1_3])), (sl, .inl (cI, 1653, .inl u_2))] H := hP
    have hD : va_D A [(tb, .inl (cB, 120, .inl tbf)), (h, .inr (7, [.ref sl, .int 0, .ref zs, .ref ln, .ref ir, .ref tk, .int su, .int 0, .ref tb, .int v1_0, .int v1_1, .int v1_2, .ref tr, .int tc, .ref fz, .int v1_3])), (sl, .inl (cI, 1653, .inl u_2))] := hD
    refine lv_aload_n hx hb dX8_land_34 rfl (lv_at hl 1 rfl) ?_
    refine va_get (D := D) (ci := 7) (v := .ref sl) (C := RX8) (T := TX8) (N := 16) hx hb hts (fun _ h => List.mem_cons_of_mem _ (List.mem_append_right _ h)) hown hK hP 1 rfl rfl 0 (by decide) (hts (.fieldLink RX8 7 "WinterWalkModel" "slot" "[I") (List.mem_of_getElem? (i := 5) rfl)) (fun _ h9 => h9) rfl dX8_land_35 ?_
    refine lv_iconst (v := 1) hx hb dX8_land_38 (by decide) ?_
    refine va_iald hx hb hK hP 2 0 rfl rfl (zi_in (by decide) (by decide)) dX8_land_39 ?_
    refine lv_topi (fun x_3 ex_3 => ?_)
    have f_3 : 0 ≤ x_3.toInt ∧ x_3.toInt ≤ 8 := by rw [ex_3]; exact si_v c2_1 (s := 0) (by decide) (by omega)
    have g_3 : x_3.toInt = (u_2 1).toInt := by rw [ex_3]; exact c2_1.2
    exact wr_i (v := x_3) hx hb hr hlocks hS (0, 0, v1_0, v1_1, v1_2, v1_3, u_2) (by exact ⟨show 0 = 0 from by omega, show v1_0.toInt = (tpA (tbr tbf le.toInt) le.toInt fu.toInt pp.toInt).1.2.1 ∧ v1_2.toInt = (tpA (tbr tbf le.toInt) le.toInt fu.toInt pp.toInt).1.2.2.1 from by omega, show ((tpA (tbr tbf le.toInt) le.toInt fu.toInt pp.toInt).1.1 = 0 ∧ x_3.toInt = (tpA (tbr tbf le.toInt) le.toInt fu.toInt pp.toInt).2.1) ∨ (¬ (tpA (tbr tbf le.toInt) le.toInt fu.toInt pp.toInt).1.1 = 0 ∧ x_3.toInt = (-1000100) - (tpA (tbr tbf le.toInt) le.toInt fu.toInt pp.toInt).1.2.2.1) from by omega, show 0 ≤ (0 : Int32).toInt ∧ (0 : Int32).toInt ≤ 24 from ⟨by decide, by decide⟩, show 0 ≤ (0 : Int32).toInt ∧ (0 : Int32).toInt ≤ 120 from ⟨by decide, by decide⟩, show 0 ≤ (v1_1 : Int32).toInt ∧ (v1_1 : Int32).toInt ≤ 120 from by omega, show 0 ≤ (v1_2 : Int32).toInt ∧ (v1_2 : Int32).toInt ≤ 120 from by omega, SI.self c2_1⟩) (hP.sub [1, 2, 0] rfl) (hD.sub [1, 2, 0] (by decide) rfl) dX8_land_40
  · subst e_1
    have f_1 : (tpA (tbr tbf le.toInt) le.toInt fu.toInt pp.toInt).1.1 = 1 ∧ (tpA (tbr tbf le.toInt) le.toInt fu.toInt pp.toInt).1.2.1 = v1_0.toInt ∧ (tpA (tbr tbf le.toInt) le.toInt fu.toInt pp.toInt).1.2.2.1 = v1_2.toInt := f_1
    refine lv_istore_n (lv' := [(1, .int 0), (0, .ref h)]) hx hb dX8_land_4 rfl hl (by decide) rfl (fun ls hl => ?_)
    refine lv_aload_n hx hb dX8_land_5 rfl (lv_at hl 1 rfl) ?_
    refine lv_iconst (v := 0) hx hb dX8_land_6 (by decide) ?_
    refine va_put (D := D) (ci := 7) (v := .int 0) (ty := .int) (C := RX8) (T := TX8) (N := 16) hx hb hts (fun _ h => List.mem_cons_of_mem _ (List.mem_append_right _ h)) tyX8 tyX8_ok nmX8 hown hK hP hD hS 0 rfl rfl 7 (by decide) (hts (.fieldLink RX8 58 "WinterWalkModel" "length" "I") (List.mem_of_getElem? (i := 1) rfl)) (fun _ h9 => h9) rfl (by decide +kernel) rfl rfl (Nat.le_of_ble_eq_true rfl) dX8_land_7 (fun H locs hP hD hS => ?_)
    have hP : va_P D kl [(h, .inr (7, [.ref sl, .int na, .ref zs, .ref ln, .ref ir, .ref tk, .int su, .int 0, .ref tb, .int v1_0, .int v1_1, .int v1_2, .ref tr, .int tc, .ref fz, .int v1_3])), (sl, .inl (cI, 1653, .inl v1_4)), (tb, .inl (cB, 120, .inl tbf))] H := hP
    have hD : va_D A [(h, .inr (7, [.ref sl, .int na, .ref zs, .ref ln, .ref ir, .ref tk, .int su, .int 0, .ref tb, .int v1_0, .int v1_1, .int v1_2, .ref tr, .int tc, .ref fz, .int v1_3])), (sl, .inl (cI, 1653, .inl v1_4)), (tb, .inl (cB, 120, .inl tbf))] := hD
    refine lv_iload_n hx hb dX8_land_10 rfl (lv_at hl 0 rfl) ?_
    refine lv_if_ne (tgt := 22) hx hb dX8_land_11 (by decide) (fun c9 => absurd (by decide) c9) (fun _ => ?_)
    refine lv_ldc (v := (-1000100)) hx hb hown (hts (.constant RX8 113 (-1000100)) (List.mem_of_getElem? (i := 2) rfl)) dX8_land_14 ?_
    refine lv_aload_n hx hb dX8_land_16 rfl (lv_at hl 1 rfl) ?_
    refine va_get (D := D) (ci := 7) (v := .int v1_2) (C := RX8) (T := TX8) (N := 16) hx hb hts (fun _ h => List.mem_cons_of_mem _ (List.mem_append_right _ h)) hown hK hP 0 rfl rfl 11 (by decide) (hts (.fieldLink RX8 68 "WinterWalkModel" "place" "I") (List.mem_of_getElem? (i := 3) rfl)) (fun _ h9 => h9) rfl dX8_land_17 ?_
    refine lv_isub hx hb dX8_land_20 ?_
    refine lv_topi (fun x_4 ex_4 => ?_)
    have e_4 : x_4.toInt = (-1000100) - v1_2.toInt := by rw [ex_4]; exact zi_sub (by decide) (rfl) (by omega) (by omega)
    clear ex_4
    exact wr_i (v := x_4) hx hb hr hlocks hS (na, 0, v1_0, v1_1, v1_2, v1_3, v1_4) (by exact ⟨show 0 = 0 from by omega, show v1_0.toInt = (tpA (tbr tbf le.toInt) le.toInt fu.toInt pp.toInt).1.2.1 ∧ v1_2.toInt = (tpA (tbr tbf le.toInt) le.toInt fu.toInt pp.toInt).1.2.2.1 from by omega, show ((tpA (tbr tbf le.toInt) le.toInt fu.toInt pp.toInt).1.1 = 0 ∧ x_4.toInt = (tpA (tbr tbf le.toInt) le.toInt fu.toInt pp.toInt).2.1) ∨ (¬ (tpA (tbr tbf le.toInt) le.toInt fu.toInt pp.toInt).1.1 = 0 ∧ x_4.toInt = (-1000100) - (tpA (tbr tbf le.toInt) le.toInt fu.toInt pp.toInt).1.2.2.1) from by omega, show 0 ≤ (na : Int32).toInt ∧ (na : Int32).toInt ≤ 24 from by omega, show 0 ≤ (0 : Int32).toInt ∧ (0 : Int32).toInt ≤ 120 from ⟨by decide, by decide⟩, show 0 ≤ (v1_1 : Int32).toInt ∧ (v1_1 : Int32).toInt ≤ 120 from by omega, show 0 ≤ (v1_2 : Int32).toInt ∧ (v1_2 : Int32).toInt ≤ 120 from by omega, SI.self c1_3⟩) (hP.sub [0, 1, 2] rfl) (hD.sub [0, 1, 2] (by decide) rfl) dX8_land_21
set_option maxHeartbeats 4000000 in
set_option maxRecDepth 100000 in
theorem p_X6_append (l : Launch) (D : va_G) (cI cB cQ : ClassId) (sz : Nat) (h : Nat) (tb : Nat) (dr : Nat) (le : Int32) (lf : Int32) (fp : Int32) (pl : Int32) (fy : Int32) (v : Int32) (tf : Nat → Int32) (h_le : 0 ≤ le.toInt ∧ le.toInt ≤ 120) (h_fp : 0 ≤ fp.toInt ∧ fp.toInt ≤ 120) (h_pl : 0 ≤ pl.toInt ∧ pl.toInt ≤ 120) (h_x : le.toInt ≤ 119) : mi l yX6_append wsX6_append ({ frames := 0, cells := 0, slots := 0, locals := 0 }) D cI cB cQ [.ref h, .int v] sz [(h, .inr (5, [.ref tb, .ref dr, .int le, .int lf, .int fp, .int pl, .int fy])), (tb, .inl (cI, 120, .inl tf))] (fun (r : Int32) (u : Int32 × (Nat → Int32)) => (u.1.toInt = le.toInt + 1 ∧ r.toInt = le.toInt + 1) ∧ (0 ≤ u.1.toInt ∧ u.1.toInt ≤ 120) ∧ (u.2 = upd tf le.toNatClampNeg v)) (fun u => [(h, .inr (5, [.ref tb, .ref dr, .int u.1, .int lf, .int fp, .int pl, .int fy])), (tb, .inl (cI, 120, .inl u.2))]) 0 0 := by
  refine wm_i (cc := cX6_append) (maxL := 2) (ret := (some .int)) (by decide) rfl (Nat.le_of_ble_eq_true rfl) ?_
  intro p e s m below meth c A ls hx hb hr hml hown hts hlocks hin hP hK hD hN hA hl hS
  have hown : s.vm.findClass RX6 = some m.cls := hown
  have hl : lv_has ls 2 [(0, .ref h), (1, .int v)] := hl
  change W p l e ({ frames := 0, cells := 0, slots := 0, locals := 0 }) s m ([.ref h, .int v] : List Value).toArray below meth c s.heap [] 0 0 (MQ below (va_Qi (fun (r : Int32) (u : Int32 × (Nat → Int32)) => (u.1.toInt = le.toInt + 1 ∧ r.toInt = le.toInt + 1) ∧ (0 ≤ u.1.toInt ∧ u.1.toInt ≤ 120) ∧ (u.2 = upd tf le.toNatClampNeg v)) (fun u t => wb D A ((fun u => [(h, .inr (5, [.ref tb, .ref dr, .int u.1, .int lf, .int fp, .int pl, .int fy])), (tb, .inl (cI, 120, .inl u.2))]) u) t) A) ([.ref h, .int v] : List Value).toArray s 0 0 A) (F0 m 0 ls [])
  refine lv_aload_n hx hb dX6_append_0 rfl (lv_at hl 0 rfl) ?_
  refine va_get (D := D) (ci := 5) (v := .ref tb) (C := RX6) (T := TX6) (N := 7) hx hb hts (fun _ h => List.mem_cons_of_mem _ (List.mem_append_right _ h)) hown hK hP 0 rfl rfl 0 (by decide) (hts (.fieldLink RX6 11 "WinterWalk$Tape" "bytes" "[I") (List.mem_of_getElem? (i := 1) rfl)) (fun _ h9 => h9) rfl dX6_append_1 ?_
  refine lv_aload_n hx hb dX6_append_4 rfl (lv_at hl 0 rfl) ?_
  refine va_get (D := D) (ci := 5) (v := .int le) (C := RX6) (T := TX6) (N := 7) hx hb hts (fun _ h => List.mem_cons_of_mem _ (List.mem_append_right _ h)) hown hK hP 0 rfl rfl 2 (by decide) (hts (.fieldLink RX6 22 "WinterWalk$Tape" "length" "I") (List.mem_of_getElem? (i := 2) rfl)) (fun _ h9 => h9) rfl dX6_append_5 ?_
  refine lv_iload_n hx hb dX6_append_8 rfl (lv_at hl 1 rfl) ?_
  refine va_iast hx hb hK hP hD hS 1 0 rfl rfl (zi_in (by omega) (by omega)) dX6_append_9 (fun H locs hP hD hS => ?_)
  have hP : va_P D kl [(h, .inr (5, [.ref tb, .ref dr, .int le, .int lf, .int fp, .int pl, .int fy])), (tb, .inl (cI, 120, .inl (upd tf (le : Int32).toNatClampNeg v)))] H := hP
  have hD : va_D A [(h, .inr (5, [.ref tb, .ref dr, .int le, .int lf, .int fp, .int pl, .int fy])), (tb, .inl (cI, 120, .inl (upd tf (le : Int32).toNatClampNeg v)))] := hD
  refine lv_aload_n hx hb dX6_append_10 rfl (lv_at hl 0 rfl) ?_
  refine lv_dup hx hb dX6_append_11 rfl ?_
  refine va_get (D := D) (ci := 5) (v := .int le) (C := RX6) (T := TX6) (N := 7) hx hb hts (fun _ h => List.mem_cons_of_mem _ (List.mem_append_right _ h)) hown hK hP 0 rfl rfl 2 (by decide) (hts (.fieldLink RX6 22 "WinterWalk$Tape" "length" "I") (List.mem_of_getElem? (i := 2) rfl)) (fun _ h9 => h9) rfl dX6_append_12 ?_
  refine lv_iconst (v := 1) hx hb dX6_append_15 (by decide) ?_
  refine lv_iadd hx hb dX6_append_16 ?_
  refine lv_topi (fun x_1 ex_1 => ?_)
  have e_1 : x_1.toInt = le.toInt + 1 := by rw [ex_1]; exact zi_add (rfl) (by decide) (by omega) (by omega)
  clear ex_1
  refine va_put (D := D) (ci := 5) (v := .int x_1) (ty := .int) (C := RX6) (T := TX6) (N := 7) hx hb hts (fun _ h => List.mem_cons_of_mem _ (List.mem_append_right _ h)) tyX6 tyX6_ok nmX6 hown hK hP hD hS 0 rfl rfl 2 (by decide) (hts (.fieldLink RX6 22 "WinterWalk$Tape" "length" "I") (List.mem_of_getElem? (i := 2) rfl)) (fun _ h9 => h9) rfl (by decide +kernel) rfl rfl (Nat.le_of_ble_eq_true rfl) dX6_append_17 (fun H locs hP hD hS => ?_)
  have hP : va_P D kl [(h, .inr (5, [.ref tb, .ref dr, .int x_1, .int lf, .int fp, .int pl, .int fy])), (tb, .inl (cI, 120, .inl (upd tf (le : Int32).toNatClampNeg v)))] H := hP
  have hD : va_D A [(h, .inr (5, [.ref tb, .ref dr, .int x_1, .int lf, .int fp, .int pl, .int fy])), (tb, .inl (cI, 120, .inl (upd tf (le : Int32).toNatClampNeg v)))] := hD
  refine lv_aload_n hx hb dX6_append_20 rfl (lv_at hl 0 rfl) ?_
  refine va_get (D := D) (ci := 5) (v := .int x_1) (C := RX6) (T := TX6) (N := 7) hx hb hts (fun _ h => List.mem_cons_of_mem _ (List.mem_append_right _ h)) hown hK hP 0 rfl rfl 2 (by decide) (hts (.fieldLink RX6 22 "WinterWalk$Tape" "length" "I") (List.mem_of_getElem? (i := 2) rfl)) (fun _ h9 => h9) rfl dX6_append_21 ?_
  exact wr_i (v := x_1) hx hb hr hlocks hS (x_1, (upd tf (le : Int32).toNatClampNeg v)) (by exact ⟨show x_1.toInt = le.toInt + 1 ∧ x_1.toInt = le.toInt + 1 from by omega, show 0 ≤ (x_1 : Int32).toInt ∧ (x_1 : Int32).toInt ≤ 120 from by omega, rfl⟩) (hP.sub [0, 1] rfl) (hD.sub [0, 1] (by decide) rfl) dX6_append_24
set_option maxHeartbeats 4000000 in
set_option maxRecDepth 100000 in
theorem p_X7_feed (l : Launch) (D : va_G) (cI cB cQ : ClassId) (sz : Nat) (h : Nat) (rw : Nat) (tp : Nat) (nw : Nat) (ac : Nat) (im : Nat) (fo : Nat) (ak : Nat) (tb : Nat) (dr : Nat) (fg : Int32) (le : Int32) (lf : Int32) (fp : Int32) (pl : Int32) (fy : Int32) (v : Int32) (tf : Nat → Int32) (h_le : 0 ≤ le.toInt ∧ le.toInt ≤ 120) (h_fp : 0 ≤ fp.toInt ∧ fp.toInt ≤ 120) (h_pl : 0 ≤ pl.toInt ∧ pl.toInt ≤ 120) : mi l yX7_feed wsX7_feed ({ frames := 1, cells := 0, slots := 0, locals := 21 }) D cI cB cQ [.ref h, .int v] sz [(h, .inr (6, [.ref rw, .ref tp, .ref nw, .ref ac, .ref im, .ref fo, .ref ak, .int fg])), (tp, .inr (5, [.ref tb, .ref dr, .int le, .int lf, .int fp, .int pl, .int fy])), (tb, .inl (cI, 120, .inl tf))] (fun (r : Int32) (u : Int32 × (Nat → Int32)) => (((0 ≤ v.toInt ∧ v.toInt ≤ 255) ∧ le.toInt < 120 ∧ u.1.toInt = le.toInt + 1 ∧ r.toInt = le.toInt + 1) ∨ (¬ (0 ≤ v.toInt ∧ v.toInt ≤ 255) ∧ u.1.toInt = le.toInt ∧ r.toInt = (-1000001)) ∨ ((0 ≤ v.toInt ∧ v.toInt ≤ 255) ∧ 120 ≤ le.toInt ∧ u.1.toInt = le.toInt ∧ r.toInt = (-1000003))) ∧ (0 ≤ u.1.toInt ∧ u.1.toInt ≤ 120) ∧ (u.2 = rr_up ((0 ≤ v.toInt ∧ v.toInt ≤ 255) ∧ le.toInt < 120) tf le v)) (fun u => [(h, .inr (6, [.ref rw, .ref tp, .ref nw, .ref ac, .ref im, .ref fo, .ref ak, .int fg])), (tp, .inr (5, [.ref tb, .ref dr, .int u.1, .int lf, .int fp, .int pl, .int fy])), (tb, .inl (cI, 120, .inl u.2))]) 0 0 := by
  refine wm_i (cc := cX7_feed) (maxL := 2) (ret := (some .int)) (by decide) rfl (Nat.le_of_ble_eq_true rfl) ?_
  intro p e s m below meth c A ls hx hb hr hml hown hts hlocks hin hP hK hD hN hA hl hS
  have hown : s.vm.findClass RX7 = some m.cls := hown
  have hl : lv_has ls 2 [(0, .ref h), (1, .int v)] := hl
  change W p l e ({ frames := 1, cells := 0, slots := 0, locals := 21 }) s m ([.ref h, .int v] : List Value).toArray below meth c s.heap [] 0 0 (MQ below (va_Qi (fun (r : Int32) (u : Int32 × (Nat → Int32)) => (((0 ≤ v.toInt ∧ v.toInt ≤ 255) ∧ le.toInt < 120 ∧ u.1.toInt = le.toInt + 1 ∧ r.toInt = le.toInt + 1) ∨ (¬ (0 ≤ v.toInt ∧ v.toInt ≤ 255) ∧ u.1.toInt = le.toInt ∧ r.toInt = (-1000001)) ∨ ((0 ≤ v.toInt ∧ v.toInt ≤ 255) ∧ 120 ≤ le.toInt ∧ u.1.toInt = le.toInt ∧ r.toInt = (-1000003))) ∧ (0 ≤ u.1.toInt ∧ u.1.toInt ≤ 120) ∧ (u.2 = rr_up ((0 ≤ v.toInt ∧ v.toInt ≤ 255) ∧ le.toInt < 120) tf le v)) (fun u t => wb D A ((fun u => [(h, .inr (6, [.ref rw, .ref tp, .ref nw, .ref ac, .ref im, .ref fo, .ref ak, .int fg])), (tp, .inr (5, [.ref tb, .ref dr, .int u.1, .int lf, .int fp, .int pl, .int fy])), (tb, .inl (cI, 120, .inl u.2))]) u) t) A) ([.ref h, .int v] : List Value).toArray s 0 0 A) (F0 m 0 ls [])
  refine lv_iload_n hx hb dX7_feed_0 rfl (lv_at hl 1 rfl) ?_
  refine lv_if_lt (tgt := 11) hx hb dX7_feed_1 (by decide) (fun c_1 => ?_) (fun c_1 => ?_)
  · have f_1 : v.toInt < 0 := zi_lt c_1
    refine lv_ldc (v := (-1000001)) hx hb hown (hts (.constant RX7 68 (-1000001)) (List.mem_of_getElem? (i := 1) rfl)) dX7_feed_11 ?_
    exact wr_i (v := (-1000001)) hx hb hr hlocks hS (le, tf) (by exact ⟨show ((0 ≤ v.toInt ∧ v.toInt ≤ 255) ∧ le.toInt < 120 ∧ le.toInt = le.toInt + 1 ∧ (-1000001) = le.toInt + 1) ∨ (¬ (0 ≤ v.toInt ∧ v.toInt ≤ 255) ∧ le.toInt = le.toInt ∧ (-1000001) = (-1000001)) ∨ ((0 ≤ v.toInt ∧ v.toInt ≤ 255) ∧ 120 ≤ le.toInt ∧ le.toInt = le.toInt ∧ (-1000001) = (-1000003)) from by omega, show 0 ≤ (le : Int32).toInt ∧ (le : Int32).toInt ≤ 120 from by omega, (rr_neg (show ¬ ((0 ≤ v.toInt ∧ v.toInt ≤ 255) ∧ le.toInt < 120) from by omega)).symm⟩) (hP.sub [0, 1, 2] rfl) (hD.sub [0, 1, 2] (by decide) rfl) dX7_feed_13
  · have f_1 : ¬ v.toInt < 0 := zi_nlt c_1
    refine lv_iload_n hx hb dX7_feed_4 rfl (lv_at hl 1 rfl) ?_
    refine lv_sipush (v := 255) hx hb dX7_feed_5 (by decide) ?_
    refine lv_icmp_le (tgt := 14) hx hb dX7_feed_8 (by decide) (fun c_2 => ?_) (fun c_2 => ?_)
    · have f_2 : v.toInt ≤ 255 := zi_le c_2
      refine lv_aload_n hx hb dX7_feed_14 rfl (lv_at hl 0 rfl) ?_
      refine va_get (D := D) (ci := 6) (v := .ref tp) (C := RX7) (T := TX7) (N := 8) hx hb hts (fun _ h => List.mem_cons_of_mem _ (List.mem_append_left _ (List.mem_append_right _ h))) hown hK hP 0 rfl rfl 1 (by decide) (hts (.fieldLink RX7 19 "WinterWalk" "tape" "LWinterWalk$Tape;") (List.mem_of_getElem? (i := 2) rfl)) (fun _ h9 => h9) rfl dX7_feed_15 ?_
      have k_3 := (g_X6_isFull l D cI cB cQ s.heap.size tp tb dr le lf fp pl fy)
      refine wc_i (WC := [(tp, .inr (5, [.ref tb, .ref dr, .int le, .int lf, .int fp, .int pl, .int fy]))]) (WR := [(h, .inr (6, [.ref rw, .ref tp, .ref nw, .ref ac, .ref im, .ref fo, .ref ak, .int fg])), (tb, .inl (cI, 120, .inl tf))]) (va_runV (As := []) (rest := []) ⟨hx, hb, hml, hown, hts⟩ k_3 (cwV 0 hts gX7_feed_X6_isFull rfl rfl rfl (by decide +kernel) ⟨Nat.le_of_ble_eq_true rfl, Nat.le_of_ble_eq_true rfl⟩) (wp_V hP hK hD hN [1] (by decide) rfl (ci := 5) rfl rfl) rfl rfl hl.1 rfl (lv_room (Nat.le_of_ble_eq_true rfl)) dX7_feed_18 ⟨Nat.le_of_ble_eq_true rfl, Nat.le_of_ble_eq_true rfl⟩) hP hD hS hA [1] [0, 2] rfl rfl (by decide) (by decide) (fun r_3 u_3 H locs hw_3 hP hD hS => ?_)
      clear k_3
      have hP : va_P D kl [(h, .inr (6, [.ref rw, .ref tp, .ref nw, .ref ac, .ref im, .ref fo, .ref ak, .int fg])), (tb, .inl (cI, 120, .inl tf)), (tp, .inr (5, [.ref tb, .ref dr, .int le, .int lf, .int fp, .int pl, .int fy]))] H := hP
      have hD : va_D A [(h, .inr (6, [.ref rw, .ref tp, .ref nw, .ref ac, .ref im, .ref fo, .ref ak, .int fg])), (tb, .inl (cI, 120, .inl tf)), (tp, .inr (5, [.ref tb, .ref dr, .int le, .int lf, .int fp, .int pl, .int fy]))] := hD
      have c3_0 := hw_3
      rcases c3_0 with ⟨e_3, f_3⟩ | ⟨e_3, f_3⟩
      · subst e_3
        have f_3 : 120 ≤ le.toInt := f_3
        refine lv_if_eq (tgt := 27) hx hb dX7_feed_21 (by decide) (fun c9 => absurd c9 (by decide)) (fun _ => ?_)
        refine lv_ldc (v := (-1000003)) hx hb hown (hts (.constant RX7 105 (-1000003)) (List.mem_of_getElem? (i := 3) rfl)) dX7_feed_24 ?_
        exact wr_i (v := (-1000003)) hx hb hr hlocks hS (le, tf) (by exact ⟨show ((0 ≤ v.toInt ∧ v.toInt ≤ 255) ∧ le.toInt < 120 ∧ le.toInt = le.toInt + 1 ∧ (-1000003) = le.toInt + 1) ∨ (¬ (0 ≤ v.toInt ∧ v.toInt ≤ 255) ∧ le.toInt = le.toInt ∧ (-1000003) = (-1000001)) ∨ ((0 ≤ v.toInt ∧ v.toInt ≤ 255) ∧ 120 ≤ le.toInt ∧ le.toInt = le.toInt ∧ (-1000003) = (-1000003)) from by omega, show 0 ≤ (le : Int32).toInt ∧ (le : Int32).toInt ≤ 120 from by omega, (rr_neg (show ¬ ((0 ≤ v.toInt ∧ v.toInt ≤ 255) ∧ le.toInt < 120) from by omega)).symm⟩) (hP.sub [0, 2, 1] rfl) (hD.sub [0, 2, 1] (by decide) rfl) dX7_feed_26
      · subst e_3
        have f_3 : ¬ 120 ≤ le.toInt := f_3
        refine lv_if_eq (tgt := 27) hx hb dX7_feed_21 (by decide) (fun _ => ?_) (fun c9 => absurd (by decide) c9)
        refine lv_aload_n hx hb dX7_feed_27 rfl (lv_at hl 0 rfl) ?_
        refine va_get (D := D) (ci := 6) (v := .ref tp) (C := RX7) (T := TX7) (N := 8) hx hb hts (fun _ h => List.mem_cons_of_mem _ (List.mem_append_left _ (List.mem_append_right _ h))) hown hK hP 0 rfl rfl 1 (by decide) (hts (.fieldLink RX7 19 "WinterWalk" "tape" "LWinterWalk$Tape;") (List.mem_of_getElem? (i := 2) rfl)) (fun _ h9 => h9) rfl dX7_feed_28 ?_
        refine lv_iload_n hx hb dX7_feed_31 rfl (lv_at hl 1 rfl) ?_
        have k_4 := (p_X6_append l D cI cB cQ H.size tp tb dr le lf fp pl fy v tf (by omega) (by omega) (by omega) (by omega))
        refine wc_i (WC := [(tp, .inr (5, [.ref tb, .ref dr, .int le, .int lf, .int fp, .int pl, .int fy])), (tb, .inl (cI, 120, .inl tf))]) (WR := [(h, .inr (6, [.ref rw, .ref tp, .ref nw, .ref ac, .ref im, .ref fo, .ref ak, .int fg]))]) (va_runV (As := [.int v]) (rest := []) ⟨hx, hb, hml, hown, hts⟩ k_4 (cwV 1 hts gX7_feed_X6_append rfl rfl rfl (by decide +kernel) ⟨Nat.le_of_ble_eq_true rfl, Nat.le_of_ble_eq_true rfl⟩) (wp_V hP hK hD hN [2, 1] (by decide) rfl (ci := 5) rfl rfl) rfl rfl hl.1 rfl (lv_room (Nat.le_of_ble_eq_true rfl)) dX7_feed_32 ⟨Nat.le_of_ble_eq_true rfl, Nat.le_of_ble_eq_true rfl⟩) hP hD hS hA [2, 1] [0] rfl rfl (by decide) (by decide) (fun r_4 => pe2 (fun v4_0 v4_1 H locs hw_4 hP hD hS => ?_))
        clear k_4
        have hP : va_P D kl [(h, .inr (6, [.ref rw, .ref tp, .ref nw, .ref ac, .ref im, .ref fo, .ref ak, .int fg])), (tp, .inr (5, [.ref tb, .ref dr, .int v4_0, .int lf, .int fp, .int pl, .int fy])), (tb, .inl (cI, 120, .inl v4_1))] H := hP
        have hD : va_D A [(h, .inr (6, [.ref rw, .ref tp, .ref nw, .ref ac, .ref im, .ref fo, .ref ak, .int fg])), (tp, .inr (5, [.ref tb, .ref dr, .int v4_0, .int lf, .int fp, .int pl, .int fy])), (tb, .inl (cI, 120, .inl v4_1))] := hD
        obtain ⟨c4_0, c4_1, c4_2⟩ := hw_4
        have c4_0 : v4_0.toInt = le.toInt + 1 ∧ r_4.toInt = le.toInt + 1 := c4_0
        have c4_1 : 0 ≤ v4_0.toInt ∧ v4_0.toInt ≤ 120 := c4_1
        subst c4_2
        exact wr_i (v := r_4) hx hb hr hlocks hS (v4_0, (upd tf le.toNatClampNeg v)) (by exact ⟨show ((0 ≤ v.toInt ∧ v.toInt ≤ 255) ∧ le.toInt < 120 ∧ v4_0.toInt = le.toInt + 1 ∧ r_4.toInt = le.toInt + 1) ∨ (¬ (0 ≤ v.toInt ∧ v.toInt ≤ 255) ∧ v4_0.toInt = le.toInt ∧ r_4.toInt = (-1000001)) ∨ ((0 ≤ v.toInt ∧ v.toInt ≤ 255) ∧ 120 ≤ le.toInt ∧ v4_0.toInt = le.toInt ∧ r_4.toInt = (-1000003)) from by omega, show 0 ≤ (v4_0 : Int32).toInt ∧ (v4_0 : Int32).toInt ≤ 120 from by omega, (rr_pos (show (0 ≤ v.toInt ∧ v.toInt ≤ 255) ∧ le.toInt < 120 from by omega)).symm⟩) (hP.sub [0, 1, 2] rfl) (hD.sub [0, 1, 2] (by decide) rfl) dX7_feed_35
    · have f_2 : ¬ v.toInt ≤ 255 := zi_nle c_2
      refine lv_ldc (v := (-1000001)) hx hb hown (hts (.constant RX7 68 (-1000001)) (List.mem_of_getElem? (i := 1) rfl)) dX7_feed_11 ?_
      exact wr_i (v := (-1000001)) hx hb hr hlocks hS (le, tf) (by exact ⟨show ((0 ≤ v.toInt ∧ v.toInt ≤ 255) ∧ le.toInt < 120 ∧ le.toInt = le.toInt + 1 ∧ (-1000001) = le.toInt + 1) ∨ (¬ (0 ≤ v.toInt ∧ v.toInt ≤ 255) ∧ le.toInt = le.toInt ∧ (-1000001) = (-1000001)) ∨ ((0 ≤ v.toInt ∧ v.toInt ≤ 255) ∧ 120 ≤ le.toInt ∧ le.toInt = le.toInt ∧ (-1000001) = (-1000003)) from by omega, show 0 ≤ (le : Int32).toInt ∧ (le : Int32).toInt ≤ 120 from by omega, (rr_neg (show ¬ ((0 ≤ v.toInt ∧ v.toInt ≤ 255) ∧ le.toInt < 120) from by omega)).symm⟩) (hP.sub [0, 1, 2] rfl) (hD.sub [0, 1, 2] (by decide) rfl) dX7_feed_13
set_option maxHeartbeats 4000000 in
set_option maxRecDepth 100000 in
theorem p_X8_feed (l : Launch) (D : va_G) (cI cB cQ : ClassId) (sz : Nat) (h : Nat) (sl : Nat) (zs : Nat) (ln : Nat) (ir : Nat) (tk : Nat) (tb : Nat) (tr : Nat) (fz : Nat) (na : Int32) (su : Int32) (le : Int32) (fu : Int32) (ap : Int32) (pp : Int32) (tc : Int32) (nm : Int32) (v : Int32) (tbf : Nat → Int32) (h_na : 0 ≤ na.toInt ∧ na.toInt ≤ 24) (h_le : 0 ≤ le.toInt ∧ le.toInt ≤ 120) (h_ap : 0 ≤ ap.toInt ∧ ap.toInt ≤ 120) (h_tc : 0 ≤ tc.toInt ∧ tc.toInt ≤ 16) (h_pp : 0 ≤ pp.toInt ∧ pp.toInt ≤ 120) : mi l yX8_feed wsX8_feed ({ frames := 1, cells := 0, slots := 0, locals := 25 }) D cI cB cQ [.ref h, .int v] sz [(h, .inr (7, [.ref sl, .int na, .ref zs, .ref ln, .ref ir, .ref tk, .int su, .int le, .ref tb, .int fu, .int ap, .int pp, .ref tr, .int tc, .ref fz, .int nm])), (tb, .inl (cB, 120, .inl tbf))] (fun (r : Int32) (u : Int32 × (Nat → Int32)) => (((0 ≤ v.toInt ∧ v.toInt ≤ 255) ∧ le.toInt < 120 ∧ u.1.toInt = le.toInt + 1 ∧ r.toInt = le.toInt + 1) ∨ (¬ (0 ≤ v.toInt ∧ v.toInt ≤ 255) ∧ u.1.toInt = le.toInt ∧ r.toInt = (-1000001)) ∨ ((0 ≤ v.toInt ∧ v.toInt ≤ 255) ∧ 120 ≤ le.toInt ∧ u.1.toInt = le.toInt ∧ r.toInt = (-1000003))) ∧ (0 ≤ u.1.toInt ∧ u.1.toInt ≤ 120) ∧ (u.2 = rr_up ((0 ≤ v.toInt ∧ v.toInt ≤ 255) ∧ le.toInt < 120) tbf le (vp_nar .byte v.toInt8.toInt32))) (fun u => [(h, .inr (7, [.ref sl, .int na, .ref zs, .ref ln, .ref ir, .ref tk, .int su, .int u.1, .ref tb, .int fu, .int ap, .int pp, .ref tr, .int tc, .ref fz, .int nm])), (tb, .inl (cB, 120, .inl u.2))]) 0 0 := by
  refine wm_i (cc := cX8_feed) (maxL := 2) (ret := (some .int)) (by decide) rfl (Nat.le_of_ble_eq_true rfl) ?_
  intro p e s m below meth c A ls hx hb hr hml hown hts hlocks hin hP hK hD hN hA hl hS
  have hown : s.vm.findClass RX8 = some m.cls := hown
  have hl : lv_has ls 2 [(0, .ref h), (1, .int v)] := hl
  change W p l e ({ frames := 1, cells := 0, slots := 0, locals := 25 }) s m ([.ref h, .int v] : List Value).toArray below meth c s.heap [] 0 0 (MQ below (va_Qi (fun (r : Int32) (u : Int32 × (Nat → Int32)) => (((0 ≤ v.toInt ∧ v.toInt ≤ 255) ∧ le.toInt < 120 ∧ u.1.toInt = le.toInt + 1 ∧ r.toInt = le.toInt + 1) ∨ (¬ (0 ≤ v.toInt ∧ v.toInt ≤ 255) ∧ u.1.toInt = le.toInt ∧ r.toInt = (-1000001)) ∨ ((0 ≤ v.toInt ∧ v.toInt ≤ 255) ∧ 120 ≤ le.toInt ∧ u.1.toInt = le.toInt ∧ r.toInt = (-1000003))) ∧ (0 ≤ u.1.toInt ∧ u.1.toInt ≤ 120) ∧ (u.2 = rr_up ((0 ≤ v.toInt ∧ v.toInt ≤ 255) ∧ le.toInt < 120) tbf le (vp_nar .byte v.toInt8.toInt32))) (fun u t => wb D A ((fun u => [(h, .inr (7, [.ref sl, .int na, .ref zs, .ref ln, .ref ir, .ref tk, .int su, .int u.1, .ref tb, .int fu, .int ap, .int pp, .ref tr, .int tc, .ref fz, .int nm])), (tb, .inl (cB, 120, .inl u.2))]) u) t) A) ([.ref h, .int v] : List Value).toArray s 0 0 A) (F0 m 0 ls [])
  refine lv_iload_n hx hb dX8_feed_0 rfl (lv_at hl 1 rfl) ?_
  refine lv_i2l (v := (v.toInt64)) hx hb dX8_feed_1 rfl ?_
  refine lv_lconst (v := 0) hx hb dX8_feed_2 (by decide) ?_
  refine lv_ldc2 (v := 255) hx hb hown (hts (.constantLong RX8 56 (255)) (List.mem_of_getElem? (i := 1) rfl)) dX8_feed_3 ?_
  have k_1 := (g_X8_in l D cI cB cQ s.heap.size (v.toInt64) 0 255)
  refine wc_i (WC := []) (WR := [(h, .inr (7, [.ref sl, .int na, .ref zs, .ref ln, .ref ir, .ref tk, .int su, .int le, .ref tb, .int fu, .int ap, .int pp, .ref tr, .int tc, .ref fz, .int nm])), (tb, .inl (cB, 120, .inl tbf))]) (va_runS (As := [.long (v.toInt64), .long 0, .long 255]) (rest := []) ⟨hx, hb, hml, hown, hts⟩ k_1 (va_cwS 3 hts gX8_feed_X8_in rfl rfl rfl (by decide +kernel) ⟨Nat.le_of_ble_eq_true rfl, Nat.le_of_ble_eq_true rfl⟩) (wp_S hP hK hD hN [] (by decide) rfl) rfl rfl hl.1 rfl (lv_room (Nat.le_of_ble_eq_true rfl)) dX8_feed_6 ⟨Nat.le_of_ble_eq_true rfl, Nat.le_of_ble_eq_true rfl⟩) hP hD hS hA [] [0, 1] rfl rfl (by decide) (by decide) (fun r_1 u_1 H locs hw_1 hP hD hS => ?_)
  clear k_1
  have hP : va_P D kl [(h, .inr (7, [.ref sl, .int na, .ref zs, .ref ln, .ref ir, .ref tk, .int su, .int le, .ref tb, .int fu, .int ap, .int pp, .ref tr, .int tc, .ref fz, .int nm])), (tb, .inl (cB, 120, .inl tbf))] H := hP
  have hD : va_D A [(h, .inr (7, [.ref sl, .int na, .ref zs, .ref ln, .ref ir, .ref tk, .int su, .int le, .ref tb, .int fu, .int ap, .int pp, .ref tr, .int tc, .ref fz, .int nm])), (tb, .inl (cB, 120, .inl tbf))] := hD
  have c1_0 := hw_1
  rcases c1_0 with ⟨e_1, f_1⟩ | ⟨e_1, f_1⟩
  · subst e_1
    have f_1 : (0 : Int) ≤ v.toInt ∧ v.toInt ≤ (255 : Int) := by
      have h8 := f_1
      try simp only [zl_of] at h8
      exact h8
    refine lv_if_ne (tgt := 15) hx hb dX8_feed_9 (by decide) (fun _ => ?_) (fun c9 => absurd c9 (by decide))
    refine lv_aload_n hx hb dX8_feed_15 rfl (lv_at hl 0 rfl) ?_
    refine va_get (D := D) (ci := 7) (v := .int le) (C := RX8) (T := TX8) (N := 16) hx hb hts (fun _ h => List.mem_cons_of_mem _ (List.mem_append_right _ h)) hown hK hP 0 rfl rfl 7 (by decide) (hts (.fieldLink RX8 58 "WinterWalkModel" "length" "I") (List.mem_of_getElem? (i := 3) rfl)) (fun _ h9 => h9) rfl dX8_feed_16 ?_
    refine lv_bipush (v := 120) hx hb dX8_feed_19 (by decide) ?_
    refine lv_icmp_ne (tgt := 27) hx hb dX8_feed_21 (by decide) (fun c_2 => ?_) (fun c_2 => ?_)
    · have f_2 : ¬ le.toInt = 120 := zi_ne c_2
      refine lv_aload_n hx hb dX8_feed_27 rfl (lv_at hl 0 rfl) ?_
      refine va_get (D := D) (ci := 7) (v := .ref tb) (C := RX8) (T := TX8) (N := 16) hx hb hts (fun _ h => List.mem_cons_of_mem _ (List.mem_append_right _ h)) hown hK hP 0 rfl rfl 8 (by decide) (hts (.fieldLink RX8 25 "WinterWalkModel" "tape" "[B") (List.mem_of_getElem? (i := 5) rfl)) (fun _ h9 => h9) rfl dX8_feed_28 ?_
      refine lv_aload_n hx hb dX8_feed_31 rfl (lv_at hl 0 rfl) ?_
      refine va_get (D := D) (ci := 7) (v := .int le) (C := RX8) (T := TX8) (N := 16) hx hb hts (fun _ h => List.mem_cons_of_mem _ (List.mem_append_right _ h)) hown hK hP 0 rfl rfl 7 (by decide) (hts (.fieldLink RX8 58 "WinterWalkModel" "length" "I") (List.mem_of_getElem? (i := 3) rfl)) (fun _ h9 => h9) rfl dX8_feed_32 ?_
      refine lv_iload_n hx hb dX8_feed_35 rfl (lv_at hl 1 rfl) ?_
      refine lv_i2b (v := (v).toInt8.toInt32) hx hb dX8_feed_36 rfl ?_
      refine va_bast hx hb hK hP hD hS 1 1 rfl rfl (zi_in (by omega) (by omega)) dX8_feed_37 (fun H locs hP hD hS => ?_)
      have hP : va_P D kl [(h, .inr (7, [.ref sl, .int na, .ref zs, .ref ln, .ref ir, .ref tk, .int su, .int le, .ref tb, .int fu, .int ap, .int pp, .ref tr, .int tc, .ref fz, .int nm])), (tb, .inl (cB, 120, .inl (upd tbf (le : Int32).toNatClampNeg (vp_nar .byte (v.toInt8.toInt32)))))] H := hP
      have hD : va_D A [(h, .inr (7, [.ref sl, .int na, .ref zs, .ref ln, .ref ir, .ref tk, .int su, .int le, .ref tb, .int fu, .int ap, .int pp, .ref tr, .int tc, .ref fz, .int nm])), (tb, .inl (cB, 120, .inl (upd tbf (le : Int32).toNatClampNeg (vp_nar .byte (v.toInt8.toInt32)))))] := hD
      refine lv_aload_n hx hb dX8_feed_38 rfl (lv_at hl 0 rfl) ?_
      refine lv_dup hx hb dX8_feed_39 rfl ?_
      refine va_get (D := D) (ci := 7) (v := .int le) (C := RX8) (T := TX8) (N := 16) hx hb hts (fun _ h => List.mem_cons_of_mem _ (List.mem_append_right _ h)) hown hK hP 0 rfl rfl 7 (by decide) (hts (.fieldLink RX8 58 "WinterWalkModel" "length" "I") (List.mem_of_getElem? (i := 3) rfl)) (fun _ h9 => h9) rfl dX8_feed_40 ?_
      refine lv_iconst (v := 1) hx hb dX8_feed_43 (by decide) ?_
      refine lv_iadd hx hb dX8_feed_44 ?_
      refine lv_topi (fun x_3 ex_3 => ?_)
      have e_3 : x_3.toInt = le.toInt + 1 := by rw [ex_3]; exact zi_add (rfl) (by decide) (by omega) (by omega)
      clear ex_3
      refine va_put (D := D) (ci := 7) (v := .int x_3) (ty := .int) (C := RX8) (T := TX8) (N := 16) hx hb hts (fun _ h => List.mem_cons_of_mem _ (List.mem_append_right _ h)) tyX8 tyX8_ok nmX8 hown hK hP hD hS 0 rfl rfl 7 (by decide) (hts (.fieldLink RX8 58 "WinterWalkModel" "length" "I") (List.mem_of_getElem? (i := 3) rfl)) (fun _ h9 => h9) rfl (by decide +kernel) rfl rfl (Nat.le_of_ble_eq_true rfl) dX8_feed_45 (fun H locs hP hD hS => ?_)
      have hP : va_P D kl [(h, .inr (7, [.ref sl, .int na, .ref zs, .ref ln, .ref ir, .ref tk, .int su, .int x_3, .ref tb, .int fu, .int ap, .int pp, .ref tr, .int tc, .ref fz, .int nm])), (tb, .inl (cB, 120, .inl (upd tbf (le : Int32).toNatClampNeg (vp_nar .byte (v.toInt8.toInt32)))))] H := hP
      have hD : va_D A [(h, .inr (7, [.ref sl, .int na, .ref zs, .ref ln, .ref ir, .ref tk, .int su, .int x_3, .ref tb, .int fu, .int ap, .int pp, .ref tr, .int tc, .ref fz, .int nm])), (tb, .inl (cB, 120, .inl (upd tbf (le : Int32).toNatClampNeg (vp_nar .byte (v.toInt8.toInt32)))))] := hD
      refine lv_aload_n hx hb dX8_feed_48 rfl (lv_at hl 0 rfl) ?_
      refine va_get (D := D) (ci := 7) (v := .int x_3) (C := RX8) (T := TX8) (N := 16) hx hb hts (fun _ h => List.mem_cons_of_mem _ (List.mem_append_right _ h)) hown hK hP 0 rfl rfl 7 (by decide) (hts (.fieldLink RX8 58 "WinterWalkModel" "length" "I") (List.mem_of_getElem? (i := 3) rfl)) (fun _ h9 => h9) rfl dX8_feed_49 ?_
      exact wr_i (v := x_3) hx hb hr hlocks hS (x_3, (upd tbf (le : Int32).toNatClampNeg (vp_nar .byte (v.toInt8.toInt32)))) (by exact ⟨show ((0 ≤ v.toInt ∧ v.toInt ≤ 255) ∧ le.toInt < 120 ∧ x_3.toInt = le.toInt + 1 ∧ x_3.toInt = le.toInt + 1) ∨ (¬ (0 ≤ v.toInt ∧ v.toInt ≤ 255) ∧ x_3.toInt = le.toInt ∧ x_3.toInt = (-1000001)) ∨ ((0 ≤ v.toInt ∧ v.toInt ≤ 255) ∧ 120 ≤ le.toInt ∧ x_3.toInt = le.toInt ∧ x_3.toInt = (-1000003)) from by omega, show 0 ≤ (x_3 : Int32).toInt ∧ (x_3 : Int32).toInt ≤ 120 from by omega, (rr_pos (show (0 ≤ v.toInt ∧ v.toInt ≤ 255) ∧ le.toInt < 120 from by omega)).symm⟩) (hP.sub [0, 1] rfl) (hD.sub [0, 1] (by decide) rfl) dX8_feed_52
    · have f_2 : le.toInt = 120 := zi_eq c_2
      refine lv_ldc (v := (-1000003)) hx hb hown (hts (.constant RX8 61 (-1000003)) (List.mem_of_getElem? (i := 4) rfl)) dX8_feed_24 ?_
      exact wr_i (v := (-1000003)) hx hb hr hlocks hS (le, tbf) (by exact ⟨show ((0 ≤ v.toInt ∧ v.toInt ≤ 255) ∧ le.toInt < 120 ∧ le.toInt = le.toInt + 1 ∧ (-1000003) = le.toInt + 1) ∨ (¬ (0 ≤ v.toInt ∧ v.toInt ≤ 255) ∧ le.toInt = le.toInt ∧ (-1000003) = (-1000001)) ∨ ((0 ≤ v.toInt ∧ v.toInt ≤ 255) ∧ 120 ≤ le.toInt ∧ le.toInt = le.toInt ∧ (-1000003) = (-1000003)) from by omega, show 0 ≤ (le : Int32).toInt ∧ (le : Int32).toInt ≤ 120 from by omega, (rr_neg (show ¬ ((0 ≤ v.toInt ∧ v.toInt ≤ 255) ∧ le.toInt < 120) from by omega)).symm⟩) (hP.sub [0, 1] rfl) (hD.sub [0, 1] (by decide) rfl) dX8_feed_26
  · subst e_1
    have f_1 : ¬ ((0 : Int) ≤ v.toInt ∧ v.toInt ≤ (255 : Int)) := by
      have h8 := f_1
      try simp only [zl_of] at h8
      exact h8
    refine lv_if_ne (tgt := 15) hx hb dX8_feed_9 (by decide) (fun c9 => absurd (by decide) c9) (fun _ => ?_)
    refine lv_ldc (v := (-1000001)) hx hb hown (hts (.constant RX8 48 (-1000001)) (List.mem_of_getElem? (i := 2) rfl)) dX8_feed_12 ?_
    exact wr_i (v := (-1000001)) hx hb hr hlocks hS (le, tbf) (by exact ⟨show ((0 ≤ v.toInt ∧ v.toInt ≤ 255) ∧ le.toInt < 120 ∧ le.toInt = le.toInt + 1 ∧ (-1000001) = le.toInt + 1) ∨ (¬ (0 ≤ v.toInt ∧ v.toInt ≤ 255) ∧ le.toInt = le.toInt ∧ (-1000001) = (-1000001)) ∨ ((0 ≤ v.toInt ∧ v.toInt ≤ 255) ∧ 120 ≤ le.toInt ∧ le.toInt = le.toInt ∧ (-1000001) = (-1000003)) from by omega, show 0 ≤ (le : Int32).toInt ∧ (le : Int32).toInt ≤ 120 from by omega, (rr_neg (show ¬ ((0 ≤ v.toInt ∧ v.toInt ≤ 255) ∧ le.toInt < 120) from by omega)).symm⟩) (hP.sub [0, 1] rfl) (hD.sub [0, 1] (by decide) rfl) dX8_feed_14
set_option maxHeartbeats 4000000 in
set_option maxRecDepth 100000 in
theorem p_X7_fault (l : Launch) (D : va_G) (cI cB cQ : ClassId) (sz : Nat) (h : Nat) (rw : Nat) (tp : Nat) (nw : Nat) (ac : Nat) (im : Nat) (fo : Nat) (ak : Nat) (tb : Nat) (dr : Nat) (fg : Int32) (le : Int32) (lf : Int32) (fp : Int32) (pl : Int32) (fy : Int32) : mi l yX7_fault wsX7_fault ({ frames := 0, cells := 0, slots := 0, locals := 0 }) D cI cB cQ [.ref h] sz [(h, .inr (6, [.ref rw, .ref tp, .ref nw, .ref ac, .ref im, .ref fo, .ref ak, .int fg])), (tp, .inr (5, [.ref tb, .ref dr, .int le, .int lf, .int fp, .int pl, .int fy]))] (fun (r : Int32) (_u : Unit) => (r.toInt = lf.toInt)) (fun _ => [(h, .inr (6, [.ref rw, .ref tp, .ref nw, .ref ac, .ref im, .ref fo, .ref ak, .int fg])), (tp, .inr (5, [.ref tb, .ref dr, .int le, .int lf, .int fp, .int pl, .int fy]))]) 0 0 := by
  refine wm_i (cc := cX7_fault) (maxL := 1) (ret := (some .int)) (by decide) rfl (Nat.le_of_ble_eq_true rfl) ?_
  intro p e s m below meth c A ls hx hb hr hml hown hts hlocks hin hP hK hD hN hA hl hS
  have hown : s.vm.findClass RX7 = some m.cls := hown
  have hl : lv_has ls 1 [(0, .ref h)] := hl
  change W p l e ({ frames := 0, cells := 0, slots := 0, locals := 0 }) s m ([.ref h] : List Value).toArray below meth c s.heap [] 0 0 (MQ below (va_Qi (fun (r : Int32) (_u : Unit) => (r.toInt = lf.toInt)) (fun u t => wb D A ((fun _ => [(h, .inr (6, [.ref rw, .ref tp, .ref nw, .ref ac, .ref im, .ref fo, .ref ak, .int fg])), (tp, .inr (5, [.ref tb, .ref dr, .int le, .int lf, .int fp, .int pl, .int fy]))]) u) t) A) ([.ref h] : List Value).toArray s 0 0 A) (F0 m 0 ls [])
  refine lv_aload_n hx hb dX7_fault_0 rfl (lv_at hl 0 rfl) ?_
  refine va_get (D := D) (ci := 6) (v := .ref tp) (C := RX7) (T := TX7) (N := 8) hx hb hts (fun _ h => List.mem_cons_of_mem _ (List.mem_append_left _ (List.mem_append_right _ h))) hown hK hP 0 rfl rfl 1 (by decide) (hts (.fieldLink RX7 19 "WinterWalk" "tape" "LWinterWalk$Tape;") (List.mem_of_getElem? (i := 1) rfl)) (fun _ h9 => h9) rfl dX7_fault_1 ?_
  refine va_get (D := D) (ci := 5) (v := .int lf) (C := RX6) (T := TX6) (N := 7) hx hb hts (fun _ h => List.mem_cons_of_mem _ (List.mem_append_right _ h)) hown hK hP 1 rfl rfl 3 (by decide) (hts (.fieldLink RX7 123 "WinterWalk$Tape" "latestFault" "I") (List.mem_of_getElem? (i := 2) rfl)) (fun _ h9 => h9) rfl dX7_fault_4 ?_
  exact wr_i (v := lf) hx hb hr hlocks hS () (by exact show lf.toInt = lf.toInt from by omega) (hP.sub [0, 1] rfl) (hD.sub [0, 1] (by decide) rfl) dX7_fault_7
set_option maxHeartbeats 4000000 in
set_option maxRecDepth 100000 in
theorem p_X8_fault (l : Launch) (D : va_G) (cI cB cQ : ClassId) (sz : Nat) (h : Nat) (sl : Nat) (zs : Nat) (ln : Nat) (ir : Nat) (tk : Nat) (tb : Nat) (tr : Nat) (fz : Nat) (na : Int32) (su : Int32) (le : Int32) (fu : Int32) (ap : Int32) (pp : Int32) (tc : Int32) (nm : Int32) : mi l yX8_fault wsX8_fault ({ frames := 0, cells := 0, slots := 0, locals := 0 }) D cI cB cQ [.ref h] sz [(h, .inr (7, [.ref sl, .int na, .ref zs, .ref ln, .ref ir, .ref tk, .int su, .int le, .ref tb, .int fu, .int ap, .int pp, .ref tr, .int tc, .ref fz, .int nm]))] (fun (r : Int32) (_u : Unit) => (r.toInt = fu.toInt)) (fun _ => [(h, .inr (7, [.ref sl, .int na, .ref zs, .ref ln, .ref ir, .ref tk, .int su, .int le, .ref tb, .int fu, .int ap, .int pp, .ref tr, .int tc, .ref fz, .int nm]))]) 0 0 := by
  refine wm_i (cc := cX8_fault) (maxL := 1) (ret := (some .int)) (by decide) rfl (Nat.le_of_ble_eq_true rfl) ?_
  intro p e s m below meth c A ls hx hb hr hml hown hts hlocks hin hP hK hD hN hA hl hS
  have hown : s.vm.findClass RX8 = some m.cls := hown
  have hl : lv_has ls 1 [(0, .ref h)] := hl
  change W p l e ({ frames := 0, cells := 0, slots := 0, locals := 0 }) s m ([.ref h] : List Value).toArray below meth c s.heap [] 0 0 (MQ below (va_Qi (fun (r : Int32) (_u : Unit) => (r.toInt = fu.toInt)) (fun u t => wb D A ((fun _ => [(h, .inr (7, [.ref sl, .int na, .ref zs, .ref ln, .ref ir, .ref tk, .int su, .int le, .ref tb, .int fu, .int ap, .int pp, .ref tr, .int tc, .ref fz, .int nm]))]) u) t) A) ([.ref h] : List Value).toArray s 0 0 A) (F0 m 0 ls [])
  refine lv_aload_n hx hb dX8_fault_0 rfl (lv_at hl 0 rfl) ?_
  refine va_get (D := D) (ci := 7) (v := .int fu) (C := RX8) (T := TX8) (N := 16) hx hb hts (fun _ h => List.mem_cons_of_mem _ (List.mem_append_right _ h)) hown hK hP 0 rfl rfl 9 (by decide) (hts (.fieldLink RX8 65 "WinterWalkModel" "fault" "I") (List.mem_of_getElem? (i := 1) rfl)) (fun _ h9 => h9) rfl dX8_fault_1 ?_
  exact wr_i (v := fu) hx hb hr hlocks hS () (by exact show fu.toInt = fu.toInt from by omega) (hP.sub [0] rfl) (hD.sub [0] (by decide) rfl) dX8_fault_4
