set_option maxHeartbeats 4000000 in
set_option maxRecDepth 100000 in
theorem p_X8_isLand (l : Launch) (D : va_G) (cI cB cQ : ClassId) (sz : Nat) (h : Nat) (sl : Nat) (zs : Nat) (ln : Nat) (ir : Nat) (tk : Nat) (tb : Nat) (tr : Nat) (fz : Nat) (na : Int32) (su : Int32) (le : Int32) (fu : Int32) (ap : Int32) (pp : Int32) (tc : Int32) (nm : Int32) (sf : Nat → Int32) (tbf : Nat → Int32) (v0 : Int) (hsi : SI sf v0) (h_na : 0 ≤ na.toInt ∧ na.toInt ≤ 24) (h_le : 0 ≤ le.toInt ∧ le.toInt ≤ 120) (h_ap : 0 ≤ ap.toInt ∧ ap.toInt ≤ 120) (h_tc : 0 ≤ tc.toInt ∧ tc.toInt ≤ 16) (h_pp : 0 ≤ pp.toInt ∧ pp.toInt ≤ 120) : mi l yX8_isLand wsX8_isLand ({ frames := 3, cells := 0, slots := 0, locals := 73 }) D cI cB cQ [.ref h] sz [(h, .inr (7, [.ref sl, .int na, .ref zs, .ref ln, .ref ir, .ref tk, .int su, .int le, .ref tb, .int fu, .int ap, .int pp, .ref tr, .int tc, .ref fz, .int nm])), (sl, .inl (cI, 1653, .inl sf)), (tb, .inl (cB, 120, .inl tbf))] (fun (r : Int32) (u : Int32 × Int32 × Int32 × Int32 × (Nat → Int32)) => ((r = 1 ∧ ((tpA (tbr tbf le.toInt) le.toInt fu.toInt pp.toInt).1.1 = 0 ∧ (tpA (tbr tbf le.toInt) le.toInt fu.toInt pp.toInt).1.2.1 = u.1.toInt ∧ (tpA (tbr tbf le.toInt) le.toInt fu.toInt pp.toInt).1.2.2.1 = u.2.2.1.toInt ∧ (tpA (tbr tbf le.toInt) le.toInt fu.toInt pp.toInt).2.1 = (ur u.2.2.2.2).1) ∧ ((((0, u.1.toInt, u.2.2.1.toInt, u.2.1.toInt) : TPS), ur u.2.2.2.2) : TPT) = (tpA (tbr tbf le.toInt) le.toInt fu.toInt pp.toInt)) ∨ (r = 0 ∧ (tpA (tbr tbf le.toInt) le.toInt fu.toInt pp.toInt).1.1 = 1 ∧ (tpA (tbr tbf le.toInt) le.toInt fu.toInt pp.toInt).1.2.1 = u.1.toInt ∧ (tpA (tbr tbf le.toInt) le.toInt fu.toInt pp.toInt).1.2.2.1 = u.2.2.1.toInt)) ∧ (FRM (1596) (1653) sf u.2.2.2.2) ∧ (0 ≤ u.2.1.toInt ∧ u.2.1.toInt ≤ 120) ∧ (0 ≤ u.2.2.1.toInt ∧ u.2.2.1.toInt ≤ 120) ∧ (SI u.2.2.2.2 v0)) (fun u => [(h, .inr (7, [.ref sl, .int na, .ref zs, .ref ln, .ref ir, .ref tk, .int su, .int le, .ref tb, .int u.1, .int u.2.1, .int u.2.2.1, .ref tr, .int tc, .ref fz, .int u.2.2.2.1])), (sl, .inl (cI, 1653, .inl u.2.2.2.2)), (tb, .inl (cB, 120, .inl tbf))]) 0 0 := by
  refine wm_i (cc := cX8_isLand) (maxL := 5) (ret := (some .boolean)) (by decide) rfl (Nat.le_of_ble_eq_true rfl) ?_
  intro p e s m below meth c A ls hx hb hr hml hown hts hlocks hin hP hK hD hN hA hl hS
  have hown : s.vm.findClass RX8 = some m.cls := hown
  have hl : lv_has ls 5 [(0, .ref h)] := hl
  change W p l e ({ frames := 3, cells := 0, slots := 0, locals := 73 }) s m ([.ref h] : List Value).toArray below meth c s.heap [] 0 0 (MQ below (va_Qi (fun (r : Int32) (u : Int32 × Int32 × Int32 × Int32 × (Nat → Int32)) => ((r = 1 ∧ ((tpA (tbr tbf le.toInt) le.toInt fu.toInt pp.toInt).1.1 = 0 ∧ (tpA (tbr tbf le.toInt) le.toInt fu.toInt pp.toInt).1.2.1 = u.1.toInt ∧ (tpA (tbr tbf le.toInt) le.toInt fu.toInt pp.toInt).1.2.2.1 = u.2.2.1.toInt ∧ (tpA (tbr tbf le.toInt) le.toInt fu.toInt pp.toInt).2.1 = (ur u.2.2.2.2).1) ∧ ((((0, u.1.toInt, u.2.2.1.toInt, u.2.1.toInt) : TPS), ur u.2.2.2.2) : TPT) = (tpA (tbr tbf le.toInt) le.toInt fu.toInt pp.toInt)) ∨ (r = 0 ∧ (tpA (tbr tbf le.toInt) le.toInt fu.toInt pp.toInt).1.1 = 1 ∧ (tpA (tbr tbf le.toInt) le.toInt fu.toInt pp.toInt).1.2.1 = u.1.toInt ∧ (tpA (tbr tbf le.toInt) le.toInt fu.toInt pp.toInt).1.2.2.1 = u.2.2.1.toInt)) ∧ (FRM (1596) (1653) sf u.2.2.2.2) ∧ (0 ≤ u.2.1.toInt ∧ u.2.1.toInt ≤ 120) ∧ (0 ≤ u.2.2.1.toInt ∧ u.2.2.1.toInt ≤ 120) ∧ (SI u.2.2.2.2 v0)) (fun u t => wb D A ((fun u => [(h, .inr (7, [.ref sl, .int na, .ref zs, .ref ln, .ref ir, .ref tk, .int su, .int le, .ref tb, .int u.1, .int u.2.1, .int u.2.2.1, .ref tr, .int tc, .ref fz, .int u.2.2.2.1])), (sl, .inl (cI, 1653, .inl u.2.2.2.2)), (tb, .inl (cB, 120, .inl tbf))]) u) t) A) ([.ref h] : List Value).toArray s 0 0 A) (F0 m 0 ls [])
  refine lv_aload_n hx hb dX8_isLand_0 rfl (lv_at hl 0 rfl) ?_
  refine lv_iconst (v := 0) hx hb dX8_isLand_1 (by decide) ?_
  refine va_put (D := D) (ci := 7) (v := .int 0) (ty := .int) (C := RX8) (T := TX8) (N := 16) hx hb hts (fun _ h => List.mem_cons_of_mem _ (List.mem_append_right _ h)) tyX8 tyX8_ok nmX8 hown hK hP hD hS 0 rfl rfl 10 (by decide) (hts (.fieldLink RX8 62 "WinterWalkModel" "at" "I") (List.mem_of_getElem? (i := 1) rfl)) (fun _ h9 => h9) rfl (by decide +kernel) rfl rfl (Nat.le_of_ble_eq_true rfl) dX8_isLand_2 (fun H locs hP hD hS => ?_)
  have hP : va_P D kl [(h, .inr (7, [.ref sl, .int na, .ref zs, .ref ln, .ref ir, .ref tk, .int su, .int le, .ref tb, .int fu, .int 0, .int pp, .ref tr, .int tc, .ref fz, .int nm])), (sl, .inl (cI, 1653, .inl sf)), (tb, .inl (cB, 120, .inl tbf))] H := hP
  have hD : va_D A [(h, .inr (7, [.ref sl, .int na, .ref zs, .ref ln, .ref ir, .ref tk, .int su, .int le, .ref tb, .int fu, .int 0, .int pp, .ref tr, .int tc, .ref fz, .int nm])), (sl, .inl (cI, 1653, .inl sf)), (tb, .inl (cB, 120, .inl tbf))] := hD
  refine lv_iconst (v := 0) hx hb dX8_isLand_5 (by decide) ?_
  refine lv_istore_n (lv' := [(1, .int 0), (0, .ref h)]) hx hb dX8_isLand_6 rfl hl (by decide) rfl (fun ls hl => ?_)
  have hL7 : ∀ (nf : Nat) (t1_c7 : Int32) (g0_c7 : Nat → Int32) (H : Heap) (locs : List Loc) (ls : Array Slot), (0 ≤ t1_c7.toInt ∧ t1_c7.toInt ≤ 57) → (SI g0_c7 v0) → (∀ q : Nat, (q : Int) < t1_c7.toInt → g0_c7 (1596 + q) = 0) → (FRM (1596) (1653) sf g0_c7) → (57 - t1_c7.toInt).toNat < nf → va_P D kl [(h, .inr (7, [.ref sl, .int na, .ref zs, .ref ln, .ref ir, .ref tk, .int su, .int le, .ref tb, .int fu, .int 0, .int pp, .ref tr, .int tc, .ref fz, .int nm])), (sl, .inl (cI, 1653, .inl g0_c7)), (tb, .inl (cB, 120, .inl tbf))] H → va_D A [(h, .inr (7, [.ref sl, .int na, .ref zs, .ref ln, .ref ir, .ref tk, .int su, .int le, .ref tb, .int fu, .int 0, .int pp, .ref tr, .int tc, .ref fz, .int nm])), (sl, .inl (cI, 1653, .inl g0_c7)), (tb, .inl (cB, 120, .inl tbf))] → va_S A s.heap H locs → lv_has ls 5 [(1, .int t1_c7), (0, .ref h)] → W p l e ({ frames := 3, cells := 0, slots := 0, locals := 73 }) s m ([.ref h] : List Value).toArray below meth c H locs 0 0 (MQ below (va_Qi (fun (r : Int32) (u : Int32 × Int32 × Int32 × Int32 × (Nat → Int32)) => ((r = 1 ∧ ((tpA (tbr tbf le.toInt) le.toInt fu.toInt pp.toInt).1.1 = 0 ∧ (tpA (tbr tbf le.toInt) le.toInt fu.toInt pp.toInt).1.2.1 = u.1.toInt ∧ (tpA (tbr tbf le.toInt) le.toInt fu.toInt pp.toInt).1.2.2.1 = u.2.2.1.toInt ∧ (tpA (tbr tbf le.toInt) le.toInt fu.toInt pp.toInt).2.1 = (ur u.2.2.2.2).1) ∧ ((((0, u.1.toInt, u.2.2.1.toInt, u.2.1.toInt) : TPS), ur u.2.2.2.2) : TPT) = (tpA (tbr tbf le.toInt) le.toInt fu.toInt pp.toInt)) ∨ (r = 0 ∧ (tpA (tbr tbf le.toInt) le.toInt fu.toInt pp.toInt).1.1 = 1 ∧ (tpA (tbr tbf le.toInt) le.toInt fu.toInt pp.toInt).1.2.1 = u.1.toInt ∧ (tpA (tbr tbf le.toInt) le.toInt fu.toInt pp.toInt).1.2.2.1 = u.2.2.1.toInt)) ∧ (FRM (1596) (1653) sf u.2.2.2.2) ∧ (0 ≤ u.2.1.toInt ∧ u.2.1.toInt ≤ 120) ∧ (0 ≤ u.2.2.1.toInt ∧ u.2.2.1.toInt ≤ 120) ∧ (SI u.2.2.2.2 v0)) (fun u t => wb D A ((fun u => [(h, .inr (7, [.ref sl, .int na, .ref zs, .ref ln, .ref ir, .ref tk, .int su, .int le, .ref tb, .int u.1, .int u.2.1, .int u.2.2.1, .ref tr, .int tc, .ref fz, .int u.2.2.2.1])), (sl, .inl (cI, 1653, .inl u.2.2.2.2)), (tb, .inl (cB, 120, .inl tbf))]) u) t) A) ([.ref h] : List Value).toArray s 0 0 A) (F0 m 7 ls []) := by
    intro nf
    induction nf with
    | zero =>
      intro t1_c7 g0_c7 H locs ls i_t1_c7 ha_g0_c7 q0_c7 hf_c7 hm
      exact absurd hm (Nat.not_lt_zero _)
    | succ nf ih7 =>
      intro t1_c7 g0_c7 H locs ls i_t1_c7 ha_g0_c7 q0_c7 hf_c7 hm7 hP hD hS hl
      refine lv_iload_n hx hb dX8_isLand_7 rfl (lv_at hl 0 rfl) ?_
      refine lv_bipush (v := 57) hx hb dX8_isLand_8 (by decide) ?_
      refine lv_icmp_ge (tgt := 30) hx hb dX8_isLand_10 (by decide) (fun c_1 => ?_) (fun c_1 => ?_)
      · have f_1 : 57 ≤ t1_c7.toInt := zi_le c_1
        refine lv_aload_n hx hb dX8_isLand_30 rfl (lv_at hl 1 rfl) ?_
        refine lv_bipush (v := 102) hx hb dX8_isLand_31 (by decide) ?_
        have k_2 := (p_X8_isSign l D cI cB cQ H.size h sl zs ln ir tk tb tr fz na su le fu 0 pp tc nm 102 tbf (by omega) (by omega) ⟨by decide, by decide⟩ (by omega) (by omega) ⟨by decide, by decide⟩)
        refine wc_i (WC := [(h, .inr (7, [.ref sl, .int na, .ref zs, .ref ln, .ref ir, .ref tk, .int su, .int le, .ref tb, .int fu, .int 0, .int pp, .ref tr, .int tc, .ref fz, .int nm])), (tb, .inl (cB, 120, .inl tbf))]) (WR := [(sl, .inl (cI, 1653, .inl g0_c7))]) (va_runV (As := [.int 102]) (rest := []) ⟨hx, hb, hml, hown, hts⟩ k_2 (cwV 1 hts gX8_isLand_X8_isSign rfl rfl rfl (by decide +kernel) ⟨Nat.le_of_ble_eq_true rfl, Nat.le_of_ble_eq_true rfl⟩) (wp_V hP hK hD hN [0, 2] (by decide) rfl (ci := 7) rfl rfl) rfl rfl hl.1 rfl (lv_room (Nat.le_of_ble_eq_true rfl)) dX8_isLand_33 ⟨Nat.le_of_ble_eq_true rfl, Nat.le_of_ble_eq_true rfl⟩) hP hD hS hA [0, 2] [1] rfl rfl (by decide) (by decide) (fun r_2 => pe3 (fun v2_0 v2_1 v2_2 H locs hw_2 hP hD hS => ?_))
        clear k_2
        have hP : va_P D kl [(sl, .inl (cI, 1653, .inl g0_c7)), (h, .inr (7, [.ref sl, .int na, .ref zs, .ref ln, .ref ir, .ref tk, .int su, .int le, .ref tb, .int v2_0, .int v2_1, .int v2_2, .ref tr, .int tc, .ref fz, .int nm])), (tb, .inl (cB, 120, .inl tbf))] H := hP
        have hD : va_D A [(sl, .inl (cI, 1653, .inl g0_c7)), (h, .inr (7, [.ref sl, .int na, .ref zs, .ref ln, .ref ir, .ref tk, .int su, .int le, .ref tb, .int v2_0, .int v2_1, .int v2_2, .ref tr, .int tc, .ref fz, .int nm])), (tb, .inl (cB, 120, .inl tbf))] := hD
        obtain ⟨c2_0, c2_1, c2_2, c2_3⟩ := hw_2
        have c2_1 : (0 : Int) ≤ v2_1.toInt := c2_1
        have c2_2 : 0 ≤ v2_1.toInt ∧ v2_1.toInt ≤ 120 := c2_2
        have c2_3 : 0 ≤ v2_2.toInt ∧ v2_2.toInt ≤ 120 := c2_3
        rcases c2_0 with ⟨e_2, f_2⟩ | ⟨e_2, f_2⟩
        · subst e_2
          have f_2 : ((0, v2_0.toInt, v2_2.toInt, v2_1.toInt) : TPS) = tS (tbr tbf le.toInt) (102 : Int) (0, fu.toInt, pp.toInt, (0 : Int)) := f_2
          refine lv_if_eq (tgt := 49) hx hb dX8_isLand_36 (by decide) (fun c9 => absurd c9 (by decide)) (fun _ => ?_)
          refine lv_aload_n hx hb dX8_isLand_39 rfl (lv_at hl 1 rfl) ?_
          refine lv_iconst (v := 1) hx hb dX8_isLand_40 (by decide) ?_
          refine lv_bipush (v := 9) hx hb dX8_isLand_41 (by decide) ?_
          have k_3 := (p_X8_isNumber l D cI cB cQ H.size h sl zs ln ir tk tb tr fz na su le v2_0 v2_1 v2_2 tc nm 1 9 tbf (by omega) (by omega) (by omega) (by omega) (by omega))
          refine wc_i (WC := [(h, .inr (7, [.ref sl, .int na, .ref zs, .ref ln, .ref ir, .ref tk, .int su, .int le, .ref tb, .int v2_0, .int v2_1, .int v2_2, .ref tr, .int tc, .ref fz, .int nm])), (tb, .inl (cB, 120, .inl tbf))]) (WR := [(sl, .inl (cI, 1653, .inl g0_c7))]) (va_runV (As := [.int 1, .int 9]) (rest := []) ⟨hx, hb, hml, hown, hts⟩ k_3 (cwV 2 hts gX8_isLand_X8_isNumber rfl rfl rfl (by decide +kernel) ⟨Nat.le_of_ble_eq_true rfl, Nat.le_of_ble_eq_true rfl⟩) (wp_V hP hK hD hN [1, 2] (by decide) rfl (ci := 7) rfl rfl) rfl rfl hl.1 rfl (lv_room (Nat.le_of_ble_eq_true rfl)) dX8_isLand_43 ⟨Nat.le_of_ble_eq_true rfl, Nat.le_of_ble_eq_true rfl⟩) hP hD hS hA [1, 2] [0] rfl rfl (by decide) (by decide) (fun r_3 => pe4 (fun v3_0 v3_1 v3_2 v3_3 H locs hw_3 hP hD hS => ?_))
          clear k_3
          have hP : va_P D kl [(sl, .inl (cI, 1653, .inl g0_c7)), (h, .inr (7, [.ref sl, .int na, .ref zs, .ref ln, .ref ir, .ref tk, .int su, .int le, .ref tb, .int v3_0, .int v3_1, .int v3_2, .ref tr, .int tc, .ref fz, .int v3_3])), (tb, .inl (cB, 120, .inl tbf))] H := hP
          have hD : va_D A [(sl, .inl (cI, 1653, .inl g0_c7)), (h, .inr (7, [.ref sl, .int na, .ref zs, .ref ln, .ref ir, .ref tk, .int su, .int le, .ref tb, .int v3_0, .int v3_1, .int v3_2, .ref tr, .int tc, .ref fz, .int v3_3])), (tb, .inl (cB, 120, .inl tbf))] := hD
          obtain ⟨c3_0, c3_1, c3_2, c3_3⟩ := hw_3
          have c3_1 : v2_1.toInt ≤ v3_1.toInt := c3_1
          have c3_2 : 0 ≤ v3_1.toInt ∧ v3_1.toInt ≤ 120 := c3_2
          have c3_3 : 0 ≤ v3_2.toInt ∧ v3_2.toInt ≤ 120 := c3_3
          rcases c3_0 with ⟨e_3, f_3⟩ | ⟨e_3, f_3⟩
          · subst e_3
            have f_3 : ((0, v3_0.toInt, v3_2.toInt, v3_1.toInt) : TPS) = tN (tbr tbf le.toInt) (1 : Int) (9 : Int) (0, v2_0.toInt, v2_2.toInt, v2_1.toInt) ∧ v3_3.toInt = tV (tbr tbf le.toInt) (1 : Int) (9 : Int) (0, v2_0.toInt, v2_2.toInt, v2_1.toInt) ∧ ((1 : Int) ≤ v3_3.toInt ∧ v3_3.toInt ≤ (9 : Int)) := f_3
            refine lv_if_ne (tgt := 51) hx hb dX8_isLand_46 (by decide) (fun _ => ?_) (fun c9 => absurd c9 (by decide))
            refine lv_aload_n hx hb dX8_isLand_51 rfl (lv_at hl 1 rfl) ?_
            refine va_get (D := D) (ci := 7) (v := .ref sl) (C := RX8) (T := TX8) (N := 16) hx hb hts (fun _ h => List.mem_cons_of_mem _ (List.mem_append_right _ h)) hown hK hP 1 rfl rfl 0 (by decide) (hts (.fieldLink RX8 7 "WinterWalkModel" "slot" "[I") (List.mem_of_getElem? (i := 2) rfl)) (fun _ h9 => h9) rfl dX8_isLand_52 ?_
            refine lv_sipush (v := 1596) hx hb dX8_isLand_55 (by decide) ?_
            refine lv_aload_n hx hb dX8_isLand_58 rfl (lv_at hl 1 rfl) ?_
            refine va_get (D := D) (ci := 7) (v := .int v3_3) (C := RX8) (T := TX8) (N := 16) hx hb hts (fun _ h => List.mem_cons_of_mem _ (List.mem_append_right _ h)) hown hK hP 1 rfl rfl 15 (by decide) (hts (.fieldLink RX8 83 "WinterWalkModel" "number" "I") (List.mem_of_getElem? (i := 3) rfl)) (fun _ h9 => h9) rfl dX8_isLand_59 ?_
            refine va_iast hx hb hK hP hD hS 0 0 rfl rfl (zi_in (by decide) (by decide)) dX8_isLand_62 (fun H locs hP hD hS => ?_)
            have hP : va_P D kl [(sl, .inl (cI, 1653, .inl (upd g0_c7 (1596 : Int32).toNatClampNeg v3_3))), (h, .inr (7, [.ref sl, .int na, .ref zs, .ref ln, .ref ir, .ref tk, .int su, .int le, .ref tb, .int v3_0, .int v3_1, .int v3_2, .ref tr, .int tc, .ref fz, .int v3_3])), (tb, .inl (cB, 120, .inl tbf))] H := hP
            have hD : va_D A [(sl, .inl (cI, 1653, .inl (upd g0_c7 (1596 : Int32).toNatClampNeg v3_3))), (h, .inr (7, [.ref sl, .int na, .ref zs, .ref ln, .ref ir, .ref tk, .int su, .int le, .ref tb, .int v3_0, .int v3_1, .int v3_2, .ref tr, .int tc, .ref fz, .int v3_3])), (tb, .inl (cB, 120, .inl tbf))] := hD
            have hq_4 : (1596 : Int32).toInt = 1596 := by decide
            have ha_4 : SI (upd g0_c7 (1596 : Int32).toNatClampNeg v3_3) v0 := si_up ha_g0_c7 (by omega) (fun s0 a0 b0 e0 => by omega) (fun s0 a0 b0 e0 => by omega) (fun s0 k0 a0 b0 c0 d0 e0 => by omega) (by omega)
            have hi_5 : (1596 : Int32).toInt = 1596 := by decide
            have hf_5 : FRM (1596) (1653) sf (upd g0_c7 (1596 : Int32).toNatClampNeg v3_3) := FRM.up hf_c7 (by omega)
            refine lv_aload_n hx hb dX8_isLand_63 rfl (lv_at hl 1 rfl) ?_
            refine lv_bipush (v := 59) hx hb dX8_isLand_64 (by decide) ?_
            have k_6 := (p_X8_isSign l D cI cB cQ H.size h sl zs ln ir tk tb tr fz na su le v3_0 v3_1 v3_2 tc v3_3 59 tbf (by omega) (by omega) (by omega) (by omega) (by omega) ⟨by decide, by decide⟩)
            refine wc_i (WC := [(h, .inr (7, [.ref sl, .int na, .ref zs, .ref ln, .ref ir, .ref tk, .int su, .int le, .ref tb, .int v3_0, .int v3_1, .int v3_2, .ref tr, .int tc, .ref fz, .int v3_3])), (tb, .inl (cB, 120, .inl tbf))]) (WR := [(sl, .inl (cI, 1653, .inl (upd g0_c7 (1596 : Int32).toNatClampNeg v3_3)))]) (va_runV (As := [.int 59]) (rest := []) ⟨hx, hb, hml, hown, hts⟩ k_6 (cwV 1 hts gX8_isLand_X8_isSign rfl rfl rfl (by decide +kernel) ⟨Nat.le_of_ble_eq_true rfl, Nat.le_of_ble_eq_true rfl⟩) (wp_V hP hK hD hN [1, 2] (by decide) rfl (ci := 7) rfl rfl) rfl rfl hl.1 rfl (lv_room (Nat.le_of_ble_eq_true rfl)) dX8_isLand_66 ⟨Nat.le_of_ble_eq_true rfl, Nat.le_of_ble_eq_true rfl⟩) hP hD hS hA [1, 2] [0] rfl rfl (by decide) (by decide) (fun r_6 => pe3 (fun v6_0 v6_1 v6_2 H locs hw_6 hP hD hS => ?_))
            clear k_6
            have hP : va_P D kl [(sl, .inl (cI, 1653, .inl (upd g0_c7 (1596 : Int32).toNatClampNeg v3_3))), (h, .inr (7, [.ref sl, .int na, .ref zs, .ref ln, .ref ir, .ref tk, .int su, .int le, .ref tb, .int v6_0, .int v6_1, .int v6_2, .ref tr, .int tc, .ref fz, .int v3_3])), (tb, .inl (cB, 120, .inl tbf))] H := hP
            have hD : va_D A [(sl, .inl (cI, 1653, .inl (upd g0_c7 (1596 : Int32).toNatClampNeg v3_3))), (h, .inr (7, [.ref sl, .int na, .ref zs, .ref ln, .ref ir, .ref tk, .int su, .int le, .ref tb, .int v6_0, .int v6_1, .int v6_2, .ref tr, .int tc, .ref fz, .int v3_3])), (tb, .inl (cB, 120, .inl tbf))] := hD
            obtain ⟨c6_0, c6_1, c6_2, c6_3⟩ := hw_6
            have c6_1 : v3_1.toInt ≤ v6_1.toInt := c6_1
            have c6_2 : 0 ≤ v6_1.toInt ∧ v6_1.toInt ≤ 120 := c6_2
            have c6_3 : 0 ≤ v6_2.toInt ∧ v6_2.toInt ≤ 120 := c6_3
            rcases c6_0 with ⟨e_6, f_6⟩ | ⟨e_6, f_6⟩
            · subst e_6
              have f_6 : ((0, v6_0.toInt, v6_2.toInt, v6_1.toInt) : TPS) = tS (tbr tbf le.toInt) (59 : Int) (0, v3_0.toInt, v3_2.toInt, v3_1.toInt) := f_6
              refine lv_if_ne (tgt := 74) hx hb dX8_isLand_69 (by decide) (fun _ => ?_) (fun c9 => absurd c9 (by decide))
              refine lv_iconst (v := 0) hx hb dX8_isLand_74 (by decide) ?_
              refine lv_istore_n (lv' := [(1, .int 0), (0, .ref h)]) hx hb dX8_isLand_75 rfl hl (by decide) rfl (fun ls hl => ?_)
              have hL76 : ∀ (nf : Nat) (t1_c76 : Int32) (g0_c76 : Int32) (g1_c76 : Int32) (g2_c76 : Int32) (g3_c76 : Int32) (g4_c76 : Nat → Int32) (H : Heap) (locs : List Loc) (ls : Array Slot), (0 ≤ t1_c76.toInt ∧ t1_c76.toInt ≤ 2) → (0 ≤ g1_c76.toInt ∧ g1_c76.toInt ≤ 120) → (0 ≤ g2_c76.toInt ∧ g2_c76.toInt ≤ 120) → (SI g4_c76 v0) → (t1_c76.toInt = 0 ∨ 1 ≤ (ur g4_c76).1) → (0 ≤ (ur g4_c76).1) → (0 ≤ (ur g4_c76).2.1 ∧ (ur g4_c76).2.1 ≤ 12) → (tpq (tbr tbf le.toInt) le.toInt t1_c76.toInt ((0, g0_c76.toInt, g2_c76.toInt, g1_c76.toInt), ur g4_c76) = (tpA (tbr tbf le.toInt) le.toInt fu.toInt pp.toInt)) → (FRM (1596) (1653) sf g4_c76) → (120 - g1_c76.toInt).toNat < nf → va_P D kl [(sl, .inl (cI, 1653, .inl g4_c76)), (h, .inr (7, [.ref sl, .int na, .ref zs, .ref ln, .ref ir, .ref tk, .int su, .int le, .ref tb, .int g0_c76, .int g1_c76, .int g2_c76, .ref tr, .int tc, .ref fz, .int g3_c76])), (tb, .inl (cB, 120, .inl tbf))] H → va_D A [(sl, .inl (cI, 1653, .inl g4_c76)), (h, .inr (7, [.ref sl, .int na, .ref zs, .ref ln, .ref ir, .ref tk, .int su, .int le, .ref tb, .int g0_c76, .int g1_c76, .int g2_c76, .ref tr, .int tc, .ref fz, .int g3_c76])), (tb, .inl (cB, 120, .inl tbf))] → va_S A s.heap H locs → lv_has ls 5 [(1, .int t1_c76), (0, .ref h)] → W p l e ({ frames := 3, cells := 0, slots := 0, locals := 73 }) s m ([.ref h] : List Value).toArray below meth c H locs 0 0 (MQ below (va_Qi (fun (r : Int32) (u : Int32 × Int32 × Int32 × Int32 × (Nat → Int32)) => ((r = 1 ∧ ((tpA (tbr tbf le.toInt) le.toInt fu.toInt pp.toInt).1.1 = 0 ∧ (tpA (tbr tbf le.toInt) le.toInt fu.toInt pp.toInt).1.2.1 = u.1.toInt ∧ (tpA (tbr tbf le.toInt) le.toInt fu.toInt pp.toInt).1.2.2.1 = u.2.2.1.toInt ∧ (tpA (tbr tbf le.toInt) le.toInt fu.toInt pp.toInt).2.1 = (ur u.2.2.2.2).1) ∧ ((((0, u.1.toInt, u.2.2.1.toInt, u.2.1.toInt) : TPS), ur u.2.2.2.2) : TPT) = (tpA (tbr tbf le.toInt) le.toInt fu.toInt pp.toInt)) ∨ (r = 0 ∧ (tpA (tbr tbf le.toInt) le.toInt fu.toInt pp.toInt).1.1 = 1 ∧ (tpA (tbr tbf le.toInt) le.toInt fu.toInt pp.toInt).1.2.1 = u.1.toInt ∧ (tpA (tbr tbf le.toInt) le.toInt fu.toInt pp.toInt).1.2.2.1 = u.2.2.1.toInt)) ∧ (FRM (1596) (1653) sf u.2.2.2.2) ∧ (0 ≤ u.2.1.toInt ∧ u.2.1.toInt ≤ 120) ∧ (0 ≤ u.2.2.1.toInt ∧ u.2.2.1.toInt ≤ 120) ∧ (SI u.2.2.2.2 v0)) (fun u t => wb D A ((fun u => [(h, .inr (7, [.ref sl, .int na, .ref zs, .ref ln, .ref ir, .ref tk, .int su, .int le, .ref tb, .int u.1, .int u.2.1, .int u.2.2.1, .ref tr, .int tc, .ref fz, .int u.2.2.2.1])), (sl, .inl (cI, 1653, .inl u.2.2.2.2)), (tb, .inl (cB, 120, .inl tbf))]) u) t) A) ([.ref h] : List Value).toArray s 0 0 A) (F0 m 76 ls []) := by
                intro nf
                induction nf with
                | zero =>
                  intro t1_c76 g0_c76 g1_c76 g2_c76 g3_c76 g4_c76 H locs ls i_t1_c76 i_g1_c76 i_g2_c76 ha_g4_c76 j0_c76 j1_c76 j2_c76 q0_c76 hf_c76 hm
                  exact absurd hm (Nat.not_lt_zero _)
                | succ nf ih76 =>
                  intro t1_c76 g0_c76 g1_c76 g2_c76 g3_c76 g4_c76 H locs ls i_t1_c76 i_g1_c76 i_g2_c76 ha_g4_c76 j0_c76 j1_c76 j2_c76 q0_c76 hf_c76 hm76 hP hD hS hl
                  refine lv_aload_n hx hb dX8_isLand_76 rfl (lv_at hl 1 rfl) ?_
                  refine va_get (D := D) (ci := 7) (v := .int g1_c76) (C := RX8) (T := TX8) (N := 16) hx hb hts (fun _ h => List.mem_cons_of_mem _ (List.mem_append_right _ h)) hown hK hP 1 rfl rfl 10 (by decide) (hts (.fieldLink RX8 62 "WinterWalkModel" "at" "I") (List.mem_of_getElem? (i := 1) rfl)) (fun _ h9 => h9) rfl dX8_isLand_77 ?_
                  refine lv_aload_n hx hb dX8_isLand_80 rfl (lv_at hl 1 rfl) ?_
                  refine va_get (D := D) (ci := 7) (v := .int le) (C := RX8) (T := TX8) (N := 16) hx hb hts (fun _ h => List.mem_cons_of_mem _ (List.mem_append_right _ h)) hown hK hP 1 rfl rfl 7 (by decide) (hts (.fieldLink RX8 58 "WinterWalkModel" "length" "I") (List.mem_of_getElem? (i := 4) rfl)) (fun _ h9 => h9) rfl dX8_isLand_81 ?_
                  refine lv_icmp_lt (tgt := 98) hx hb dX8_isLand_84 (by decide) (fun c_7 => ?_) (fun c_7 => ?_)
                  · have f_7 : g1_c76.toInt < le.toInt := zi_lt c_7
                    refine lv_aload_n hx hb dX8_isLand_98 rfl (lv_at hl 1 rfl) ?_
                    have k_8 := (p_X8_next l D cI cB cQ H.size h sl zs ln ir tk tb tr fz na su le g0_c76 g1_c76 g2_c76 tc g3_c76 tbf (by omega) (by omega) (by omega) (by omega) (by omega))
                    refine wc_i (WC := [(h, .inr (7, [.ref sl, .int na, .ref zs, .ref ln, .ref ir, .ref tk, .int su, .int le, .ref tb, .int g0_c76, .int g1_c76, .int g2_c76, .ref tr, .int tc, .ref fz, .int g3_c76])), (tb, .inl (cB, 120, .inl tbf))]) (WR := [(sl, .inl (cI, 1653, .inl g4_c76))]) (va_runV (As := []) (rest := []) ⟨hx, hb, hml, hown, hts⟩ k_8 (cwV 0 hts gX8_isLand_X8_next rfl rfl rfl (by decide +kernel) ⟨Nat.le_of_ble_eq_true rfl, Nat.le_of_ble_eq_true rfl⟩) (wp_V hP hK hD hN [1, 2] (by decide) rfl (ci := 7) rfl rfl) rfl rfl hl.1 rfl (lv_room (Nat.le_of_ble_eq_true rfl)) dX8_isLand_99 ⟨Nat.le_of_ble_eq_true rfl, Nat.le_of_ble_eq_true rfl⟩) hP hD hS hA [1, 2] [0] rfl rfl (by decide) (by decide) (fun r_8 u_8 H locs hw_8 hP hD hS => ?_)
                    clear k_8
                    have hP : va_P D kl [(sl, .inl (cI, 1653, .inl g4_c76)), (h, .inr (7, [.ref sl, .int na, .ref zs, .ref ln, .ref ir, .ref tk, .int su, .int le, .ref tb, .int g0_c76, .int g1_c76, .int g2_c76, .ref tr, .int tc, .ref fz, .int g3_c76])), (tb, .inl (cB, 120, .inl tbf))] H := hP
                    have hD : va_D A [(sl, .inl (cI, 1653, .inl g4_c76)), (h, .inr (7, [.ref sl, .int na, .ref zs, .ref ln, .ref ir, .ref tk, .int su, .int le, .ref tb, .int g0_c76, .int g1_c76, .int g2_c76, .ref tr, .int tc, .ref fz, .int g3_c76])), (tb, .inl (cB, 120, .inl tbf))] := hD
                    have c8_0 := hw_8
                    have c8_0 : (r_8.toInt = tbr tbf le.toInt g1_c76.toInt ∨ (r_8.toInt < 0 ∧ tbr tbf le.toInt g1_c76.toInt = (-1))) ∧ (r_8.toInt = (-1) ∨ g1_c76.toInt < le.toInt) := c8_0
                    refine lv_istore_n (lv' := [(2, .int r_8), (1, .int t1_c76), (0, .ref h)]) hx hb dX8_isLand_102 rfl hl (by decide) rfl (fun ls hl => ?_)
                    refine lv_iload_n hx hb dX8_isLand_103 rfl (lv_at hl 0 rfl) ?_
                    have k_9 := (p_X8_sortOf l D cI cB cQ H.size r_8)
                    refine wc_i (WC := []) (WR := [(sl, .inl (cI, 1653, .inl g4_c76)), (h, .inr (7, [.ref sl, .int na, .ref zs, .ref ln, .ref ir, .ref tk, .int su, .int le, .ref tb, .int g0_c76, .int g1_c76, .int g2_c76, .ref tr, .int tc, .ref fz, .int g3_c76])), (tb, .inl (cB, 120, .inl tbf))]) (va_runS (As := [.int r_8]) (rest := []) ⟨hx, hb, hml, hown, hts⟩ k_9 (va_cwS 1 hts gX8_isLand_X8_sortOf rfl rfl rfl (by decide +kernel) ⟨Nat.le_of_ble_eq_true rfl, Nat.le_of_ble_eq_true rfl⟩) (wp_S hP hK hD hN [] (by decide) rfl) rfl rfl hl.1 rfl (lv_room (Nat.le_of_ble_eq_true rfl)) dX8_isLand_104 ⟨Nat.le_of_ble_eq_true rfl, Nat.le_of_ble_eq_true rfl⟩) hP hD hS hA [] [0, 1, 2] rfl rfl (by decide) (by decide) (fun r_9 u_9 H locs hw_9 hP hD hS => ?_)
                    clear k_9
                    have hP : va_P D kl [(sl, .inl (cI, 1653, .inl g4_c76)), (h, .inr (7, [.ref sl, .int na, .ref zs, .ref ln, .ref ir, .ref tk, .int su, .int le, .ref tb, .int g0_c76, .int g1_c76, .int g2_c76, .ref tr, .int tc, .ref fz, .int g3_c76])), (tb, .inl (cB, 120, .inl tbf))] H := hP
                    have hD : va_D A [(sl, .inl (cI, 1653, .inl g4_c76)), (h, .inr (7, [.ref sl, .int na, .ref zs, .ref ln, .ref ir, .ref tk, .int su, .int le, .ref tb, .int g0_c76, .int g1_c76, .int g2_c76, .ref tr, .int tc, .ref fz, .int g3_c76])), (tb, .inl (cB, 120, .inl tbf))] := hD
                    have c9_0 := hw_9
                    have c9_0 : r_9.toInt = tpo r_8.toInt ∧ ((0 ≤ r_9.toInt ∧ r_9.toInt ≤ 5) ∧ (r_9.toInt = 0 ∨ 0 ≤ r_8.toInt)) := c9_0
                    have hs_9 := tpo_same c8_0.1
                    refine lv_istore_n (lv' := [(3, .int r_9), (2, .int r_8), (1, .int t1_c76), (0, .ref h)]) hx hb dX8_isLand_107 rfl hl (by decide) rfl (fun ls hl => ?_)
                    refine lv_iload_n hx hb dX8_isLand_108 rfl (lv_at hl 1 rfl) ?_
                    refine lv_bipush (v := 103) hx hb dX8_isLand_109 (by decide) ?_
                    refine lv_icmp_eq (tgt := 120) hx hb dX8_isLand_111 (by decide) (fun c_10 => ?_) (fun c_10 => ?_)
                    · have f_10 : r_8.toInt = 103 := zi_eq c_10
                      refine lv_iload_n hx hb dX8_isLand_120 rfl (lv_at hl 2 rfl) ?_
                      refine lv_if_ne (tgt := 134) hx hb dX8_isLand_121 (by decide) (fun c_11 => ?_) (fun c_11 => ?_)
                      · have f_11 : ¬ t1_c76.toInt = 0 := zi_ne c_11
                        refine lv_iload_n hx hb dX8_isLand_134 rfl (lv_at hl 1 rfl) ?_
                        refine lv_bipush (v := 114) hx hb dX8_isLand_135 (by decide) ?_
                        refine lv_icmp_ne (tgt := 167) hx hb dX8_isLand_137 (by decide) (fun c_12 => ?_) (fun c_12 => ?_)
                        · have f_12 : ¬ r_8.toInt = 114 := zi_ne c_12
                          refine lv_iload_n hx hb dX8_isLand_167 rfl (lv_at hl 0 rfl) ?_
                          refine lv_if_le (tgt := 194) hx hb dX8_isLand_168 (by decide) (fun c_13 => ?_) (fun c_13 => ?_)
                          · have f_13 : r_9.toInt ≤ 0 := zi_le c_13
                            refine lv_aload_n hx hb dX8_isLand_194 rfl (lv_at hl 3 rfl) ?_
                            refine lv_iconst (v := 1) hx hb dX8_isLand_195 (by decide) ?_
                            refine lv_aload_n hx hb dX8_isLand_196 rfl (lv_at hl 3 rfl) ?_
                            refine va_get (D := D) (ci := 7) (v := .int g1_c76) (C := RX8) (T := TX8) (N := 16) hx hb hts (fun _ h => List.mem_cons_of_mem _ (List.mem_append_right _ h)) hown hK hP 1 rfl rfl 10 (by decide) (hts (.fieldLink RX8 62 "WinterWalkModel" "at" "I") (List.mem_of_getElem? (i := 1) rfl)) (fun _ h9 => h9) rfl dX8_isLand_197 ?_
                            have k_14 := (p_X8_fails l D cI cB cQ H.size h sl zs ln ir tk tb tr fz na su le g0_c76 g1_c76 g2_c76 tc g3_c76 1 g1_c76 (by omega) (by omega))
                            refine wc_i (WC := [(h, .inr (7, [.ref sl, .int na, .ref zs, .ref ln, .ref ir, .ref tk, .int su, .int le, .ref tb, .int g0_c76, .int g1_c76, .int g2_c76, .ref tr, .int tc, .ref fz, .int g3_c76]))]) (WR := [(sl, .inl (cI, 1653, .inl g4_c76)), (tb, .inl (cB, 120, .inl tbf))]) (va_runV (As := [.int 1, .int g1_c76]) (rest := []) ⟨hx, hb, hml, hown, hts⟩ k_14 (cwV 2 hts gX8_isLand_X8_fails rfl rfl rfl (by decide +kernel) ⟨Nat.le_of_ble_eq_true rfl, Nat.le_of_ble_eq_true rfl⟩) (wp_V hP hK hD hN [1] (by decide) rfl (ci := 7) rfl rfl) rfl rfl hl.1 rfl (lv_room (Nat.le_of_ble_eq_true rfl)) dX8_isLand_200 ⟨Nat.le_of_ble_eq_true rfl, Nat.le_of_ble_eq_true rfl⟩) hP hD hS hA [1] [0, 2] rfl rfl (by decide) (by decide) (fun r_14 => pe2 (fun v14_0 v14_1 H locs hw_14 hP hD hS => ?_))
                            clear k_14
                            have hP : va_P D kl [(sl, .inl (cI, 1653, .inl g4_c76)), (tb, .inl (cB, 120, .inl tbf)), (h, .inr (7, [.ref sl, .int na, .ref zs, .ref ln, .ref ir, .ref tk, .int su, .int le, .ref tb, .int v14_0, .int g1_c76, .int v14_1, .ref tr, .int tc, .ref fz, .int g3_c76]))] H := hP
                            have hD : va_D A [(sl, .inl (cI, 1653, .inl g4_c76)), (tb, .inl (cB, 120, .inl tbf)), (h, .inr (7, [.ref sl, .int na, .ref zs, .ref ln, .ref ir, .ref tk, .int su, .int le, .ref tb, .int v14_0, .int g1_c76, .int v14_1, .ref tr, .int tc, .ref fz, .int g3_c76]))] := hD
                            obtain ⟨c14_0, c14_1, c14_2⟩ := hw_14
                            have c14_1 : v14_0.toInt = (1 : Int) ∧ v14_1.toInt = g1_c76.toInt := c14_1
                            have c14_2 : 0 ≤ v14_1.toInt ∧ v14_1.toInt ≤ 120 := c14_2
                            have e_14 := c14_0
                            · subst e_14
                              refine lv_istore (lv' := [(4, .int 0), (3, .int r_9), (2, .int r_8), (1, .int t1_c76), (0, .ref h)]) hx hb dX8_isLand_203 hl (by decide) rfl (fun ls hl => ?_)
                              refine lv_iload hx hb dX8_isLand_205 (lv_at hl 0 rfl) ?_
                              refine lv_if_ne (tgt := 212) hx hb dX8_isLand_207 (by decide) (fun c9 => absurd (by decide) c9) (fun _ => ?_)
                              refine lv_iconst (v := 0) hx hb dX8_isLand_210 (by decide) ?_
                              exact wr_z (v := 0) hx hb hr hlocks hS (v14_0, g1_c76, v14_1, g3_c76, g4_c76) (by exact ⟨Or.inr (⟨rfl, show (tpA (tbr tbf le.toInt) le.toInt fu.toInt pp.toInt).1.1 = 1 ∧ (tpA (tbr tbf le.toInt) le.toInt fu.toInt pp.toInt).1.2.1 = v14_0.toInt ∧ (tpA (tbr tbf le.toInt) le.toInt fu.toInt pp.toInt).1.2.2.1 = v14_1.toInt from tfa_1 (by rw [← q0_c76]; exact tpq_x (by omega) (by omega) (by omega) (by omega) (by omega) (by omega) (by omega) (by omega) (by omega))⟩), show FRM (1596) (1653) sf g4_c76 from hf_c76, show 0 ≤ (g1_c76 : Int32).toInt ∧ (g1_c76 : Int32).toInt ≤ 120 from by omega, show 0 ≤ (v14_1 : Int32).toInt ∧ (v14_1 : Int32).toInt ≤ 120 from by omega, ha_g4_c76⟩) (hP.sub [2, 0, 1] rfl) (hD.sub [2, 0, 1] (by decide) rfl) dX8_isLand_211 rfl
                          · have f_13 : ¬ r_9.toInt ≤ 0 := zi_nle c_13
                            refine lv_aload_n hx hb dX8_isLand_171 rfl (lv_at hl 3 rfl) ?_
                            refine va_get (D := D) (ci := 7) (v := .ref sl) (C := RX8) (T := TX8) (N := 16) hx hb hts (fun _ h => List.mem_cons_of_mem _ (List.mem_append_right _ h)) hown hK hP 1 rfl rfl 0 (by decide) (hts (.fieldLink RX8 7 "WinterWalkModel" "slot" "[I") (List.mem_of_getElem? (i := 2) rfl)) (fun _ h9 => h9) rfl dX8_isLand_172 ?_
                            refine lv_sipush (v := 1597) hx hb dX8_isLand_175 (by decide) ?_
                            refine va_iald hx hb hK hP 0 0 rfl rfl (zi_in (by decide) (by decide)) dX8_isLand_178 ?_
                            refine lv_topi (fun x_15 ex_15 => ?_)
                            have f_15 : 0 ≤ x_15.toInt ∧ x_15.toInt ≤ 8 := by rw [ex_15]; exact si_v ha_g4_c76 (s := 28) (by decide) (by omega)
                            have u_15 : x_15.toInt = (ur g4_c76).1 := by rw [ex_15]; exact ux_v
                            refine lv_if_le (tgt := 194) hx hb dX8_isLand_179 (by decide) (fun c_16 => ?_) (fun c_16 => ?_)
                            · have f_16 : (ur g4_c76).1 ≤ 0 := by
                                have h8 := zi_le c_16
                                try rw [u_15] at h8
                                exact h8
                              refine lv_aload_n hx hb dX8_isLand_194 rfl (lv_at hl 3 rfl) ?_
                              refine lv_iconst (v := 1) hx hb dX8_isLand_195 (by decide) ?_
                              refine lv_aload_n hx hb dX8_isLand_196 rfl (lv_at hl 3 rfl) ?_
                              refine va_get (D := D) (ci := 7) (v := .int g1_c76) (C := RX8) (T := TX8) (N := 16) hx hb hts (fun _ h => List.mem_cons_of_mem _ (List.mem_append_right _ h)) hown hK hP 1 rfl rfl 10 (by decide) (hts (.fieldLink RX8 62 "WinterWalkModel" "at" "I") (List.mem_of_getElem? (i := 1) rfl)) (fun _ h9 => h9) rfl dX8_isLand_197 ?_
                              have k_17 := (p_X8_fails l D cI cB cQ H.size h sl zs ln ir tk tb tr fz na su le g0_c76 g1_c76 g2_c76 tc g3_c76 1 g1_c76 (by omega) (by omega))
                              refine wc_i (WC := [(h, .inr (7, [.ref sl, .int na, .ref zs, .ref ln, .ref ir, .ref tk, .int su, .int le, .ref tb, .int g0_c76, .int g1_c76, .int g2_c76, .ref tr, .int tc, .ref fz, .int g3_c76]))]) (WR := [(sl, .inl (cI, 1653, .inl g4_c76)), (tb, .inl (cB, 120, .inl tbf))]) (va_runV (As := [.int 1, .int g1_c76]) (rest := []) ⟨hx, hb, hml, hown, hts⟩ k_17 (cwV 2 hts gX8_isLand_X8_fails rfl rfl rfl (by decide +kernel) ⟨Nat.le_of_ble_eq_true rfl, Nat.le_of_ble_eq_true rfl⟩) (wp_V hP hK hD hN [1] (by decide) rfl (ci := 7) rfl rfl) rfl rfl hl.1 rfl (lv_room (Nat.le_of_ble_eq_true rfl)) dX8_isLand_200 ⟨Nat.le_of_ble_eq_true rfl, Nat.le_of_ble_eq_true rfl⟩) hP hD hS hA [1] [0, 2] rfl rfl (by decide) (by decide) (fun r_17 => pe2 (fun v17_0 v17_1 H locs hw_17 hP hD hS => ?_))
                              clear k_17
                              have hP : va_P D kl [(sl, .inl (cI, 1653, .inl g4_c76)), (tb, .inl (cB, 120, .inl tbf)), (h, .inr (7, [.ref sl, .int na, .ref zs, .ref ln, .ref ir, .ref tk, .int su, .int le, .ref tb, .int v17_0, .int g1_c76, .int v17_1, .ref tr, .int tc, .ref fz, .int g3_c76]))] H := hP
                              have hD : va_D A [(sl, .inl (cI, 1653, .inl g4_c76)), (tb, .inl (cB, 120, .inl tbf)), (h, .inr (7, [.ref sl, .int na, .ref zs, .ref ln, .ref ir, .ref tk, .int su, .int le, .ref tb, .int v17_0, .int g1_c76, .int v17_1, .ref tr, .int tc, .ref fz, .int g3_c76]))] := hD
                              obtain ⟨c17_0, c17_1, c17_2⟩ := hw_17
                              have c17_1 : v17_0.toInt = (1 : Int) ∧ v17_1.toInt = g1_c76.toInt := c17_1
                              have c17_2 : 0 ≤ v17_1.toInt ∧ v17_1.toInt ≤ 120 := c17_2
                              have e_17 := c17_0
                              · subst e_17
                                refine lv_istore (lv' := [(4, .int 0), (3, .int r_9), (2, .int r_8), (1, .int t1_c76), (0, .ref h)]) hx hb dX8_isLand_203 hl (by decide) rfl (fun ls hl => ?_)
                                refine lv_iload hx hb dX8_isLand_205 (lv_at hl 0 rfl) ?_
                                refine lv_if_ne (tgt := 212) hx hb dX8_isLand_207 (by decide) (fun c9 => absurd (by decide) c9) (fun _ => ?_)
                                refine lv_iconst (v := 0) hx hb dX8_isLand_210 (by decide) ?_
                                exact wr_z (v := 0) hx hb hr hlocks hS (v17_0, g1_c76, v17_1, g3_c76, g4_c76) (by exact ⟨Or.inr (⟨rfl, show (tpA (tbr tbf le.toInt) le.toInt fu.toInt pp.toInt).1.1 = 1 ∧ (tpA (tbr tbf le.toInt) le.toInt fu.toInt pp.toInt).1.2.1 = v17_0.toInt ∧ (tpA (tbr tbf le.toInt) le.toInt fu.toInt pp.toInt).1.2.2.1 = v17_1.toInt from tfa_1 (by rw [← q0_c76]; exact tpq_x (by omega) (by omega) (by omega) (by omega) (by omega) (by omega) (by omega) (by omega) (by omega))⟩), show FRM (1596) (1653) sf g4_c76 from hf_c76, show 0 ≤ (g1_c76 : Int32).toInt ∧ (g1_c76 : Int32).toInt ≤ 120 from by omega, show 0 ≤ (v17_1 : Int32).toInt ∧ (v17_1 : Int32).toInt ≤ 120 from by omega, ha_g4_c76⟩) (hP.sub [2, 0, 1] rfl) (hD.sub [2, 0, 1] (by decide) rfl) dX8_isLand_211 rfl
                            · have f_16 : ¬ (ur g4_c76).1 ≤ 0 := by
                                have h8 := zi_nle c_16
                                try rw [u_15] at h8
                                exact h8
                              refine lv_iconst (v := 2) hx hb dX8_isLand_182 (by decide) ?_
                              refine lv_istore_n (lv' := [(1, .int 2), (3, .int r_9), (2, .int r_8), (0, .ref h)]) hx hb dX8_isLand_183 rfl hl (by decide) rfl (fun ls hl => ?_)
                              refine lv_aload_n hx hb dX8_isLand_184 rfl (lv_at hl 3 rfl) ?_
                              refine lv_iload_n hx hb dX8_isLand_185 rfl (lv_at hl 2 rfl) ?_
                              have k_18 := (p_X8_isWalker l D cI cB cQ H.size h sl zs ln ir tk tb tr fz na su le g0_c76 g1_c76 g2_c76 tc g3_c76 r_8 g4_c76 tbf v0 ha_g4_c76 (by omega) (by omega) (by omega) (by omega) (by omega) (by omega) (by omega))
                              refine wc_i (WC := [(h, .inr (7, [.ref sl, .int na, .ref zs, .ref ln, .ref ir, .ref tk, .int su, .int le, .ref tb, .int g0_c76, .int g1_c76, .int g2_c76, .ref tr, .int tc, .ref fz, .int g3_c76])), (sl, .inl (cI, 1653, .inl g4_c76)), (tb, .inl (cB, 120, .inl tbf))]) (WR := []) (va_runV (As := [.int r_8]) (rest := []) ⟨hx, hb, hml, hown, hts⟩ k_18 (cwV 1 hts gX8_isLand_X8_isWalker rfl rfl rfl (by decide +kernel) ⟨Nat.le_of_ble_eq_true rfl, Nat.le_of_ble_eq_true rfl⟩) (wp_V hP hK hD hN [1, 0, 2] (by decide) rfl (ci := 7) rfl rfl) rfl rfl hl.1 rfl (lv_room (Nat.le_of_ble_eq_true rfl)) dX8_isLand_186 ⟨Nat.le_of_ble_eq_true rfl, Nat.le_of_ble_eq_true rfl⟩) hP hD hS hA [1, 0, 2] [] rfl rfl (by decide) (by decide) (fun r_18 => pe5 (fun v18_0 v18_1 v18_2 v18_3 v18_4 H locs hw_18 hP hD hS => ?_))
                              clear k_18
                              have hP : va_P D kl [(h, .inr (7, [.ref sl, .int na, .ref zs, .ref ln, .ref ir, .ref tk, .int su, .int le, .ref tb, .int v18_0, .int v18_1, .int v18_2, .ref tr, .int tc, .ref fz, .int v18_3])), (sl, .inl (cI, 1653, .inl v18_4)), (tb, .inl (cB, 120, .inl tbf))] H := hP
                              have hD : va_D A [(h, .inr (7, [.ref sl, .int na, .ref zs, .ref ln, .ref ir, .ref tk, .int su, .int le, .ref tb, .int v18_0, .int v18_1, .int v18_2, .ref tr, .int tc, .ref fz, .int v18_3])), (sl, .inl (cI, 1653, .inl v18_4)), (tb, .inl (cB, 120, .inl tbf))] := hD
                              obtain ⟨c18_0, c18_1, c18_2, c18_3, c18_4, c18_5⟩ := hw_18
                              have c18_1 : (g1_c76.toInt ≤ v18_1.toInt) := c18_1
                              have c18_2 : FRM (1596) (1653) g4_c76 v18_4 := c18_2
                              have c18_3 : 0 ≤ v18_1.toInt ∧ v18_1.toInt ≤ 120 := c18_3
                              have c18_4 : 0 ≤ v18_2.toInt ∧ v18_2.toInt ≤ 120 := c18_4
                              have c18_5 : SI v18_4 v0 := c18_5
                              have hf_18 : FRM (1596) (1653) sf v18_4 := FRM.trans hf_c76 (FRM.sub c18_2 (by omega) (by omega))
                              rcases c18_0 with ⟨e_18, f_18⟩ | ⟨e_18, f_18⟩
                              · subst e_18
                                have f_18 : ((((0, v18_0.toInt, v18_2.toInt, v18_1.toInt) : TPS), ur v18_4) : TPT) = tpW (tbr tbf le.toInt) ((0, g0_c76.toInt, g2_c76.toInt, g1_c76.toInt), ur g4_c76) ∧ g1_c76.toInt < v18_1.toInt ∧ (ur v18_4).1 = (ur g4_c76).1 ∧ (ur v18_4).2.1 = (ur g4_c76).2.1 := f_18
                                refine lv_istore (lv' := [(4, .int 1), (1, .int 2), (3, .int r_9), (2, .int r_8), (0, .ref h)]) hx hb dX8_isLand_189 hl (by decide) rfl (fun ls hl => ?_)
                                refine lv_goto (tgt := 205) hx hb dX8_isLand_191 (by decide) ?_
                                refine lv_iload hx hb dX8_isLand_205 (lv_at hl 0 rfl) ?_
                                refine lv_if_ne (tgt := 212) hx hb dX8_isLand_207 (by decide) (fun _ => ?_) (fun c9 => absurd c9 (by decide))
                                refine lv_goto (tgt := 76) hx hb dX8_isLand_212 (by decide) ?_
                                exact ih76 2 v18_0 v18_1 v18_2 v18_3 v18_4 _ _ _ (show 0 ≤ 2 ∧ 2 ≤ 2 from by omega) (show 0 ≤ v18_1.toInt ∧ v18_1.toInt ≤ 120 from by omega) (show 0 ≤ v18_2.toInt ∧ v18_2.toInt ≤ 120 from by omega) c18_5 (show 2 = 0 ∨ 1 ≤ (ur v18_4).1 from by omega) (show 0 ≤ (ur v18_4).1 from by omega) (show 0 ≤ (ur v18_4).2.1 ∧ (ur v18_4).2.1 ≤ 12 from by omega) (tpq_back q0_c76 (tpq_W (fun p hp => tbr_hi hp) (by omega) (by omega) (by omega) (by omega) (by omega)) f_18.1 (by first | omega | decide)) hf_18 (by omega) (hP.sub [1, 0, 2] rfl) (hD.sub [1, 0, 2] (by decide) rfl) hS (lv_sub hl [1, 4] rfl)
                              · subst e_18
                                have f_18 : tfa (tpW (tbr tbf le.toInt) ((0, g0_c76.toInt, g2_c76.toInt, g1_c76.toInt), ur g4_c76)).1 v18_0.toInt v18_2.toInt := f_18
                                refine lv_istore (lv' := [(4, .int 0), (1, .int 2), (3, .int r_9), (2, .int r_8), (0, .ref h)]) hx hb dX8_isLand_189 hl (by decide) rfl (fun ls hl => ?_)
                                refine lv_goto (tgt := 205) hx hb dX8_isLand_191 (by decide) ?_
                                refine lv_iload hx hb dX8_isLand_205 (lv_at hl 0 rfl) ?_
                                refine lv_if_ne (tgt := 212) hx hb dX8_isLand_207 (by decide) (fun c9 => absurd (by decide) c9) (fun _ => ?_)
                                refine lv_iconst (v := 0) hx hb dX8_isLand_210 (by decide) ?_
                                exact wr_z (v := 0) hx hb hr hlocks hS (v18_0, v18_1, v18_2, v18_3, v18_4) (by exact ⟨Or.inr (⟨rfl, show (tpA (tbr tbf le.toInt) le.toInt fu.toInt pp.toInt).1.1 = 1 ∧ (tpA (tbr tbf le.toInt) le.toInt fu.toInt pp.toInt).1.2.1 = v18_0.toInt ∧ (tpA (tbr tbf le.toInt) le.toInt fu.toInt pp.toInt).1.2.2.1 = v18_2.toInt from tfa_1 (tpq_fb q0_c76 (tpq_W (fun p hp => tbr_hi hp) (by omega) (by omega) (by omega) (by omega) (by omega)) f_18)⟩), show FRM (1596) (1653) sf v18_4 from hf_18, show 0 ≤ (v18_1 : Int32).toInt ∧ (v18_1 : Int32).toInt ≤ 120 from by omega, show 0 ≤ (v18_2 : Int32).toInt ∧ (v18_2 : Int32).toInt ≤ 120 from by omega, c18_5⟩) (hP.sub [0, 1, 2] rfl) (hD.sub [0, 1, 2] (by decide) rfl) dX8_isLand_211 rfl
                        · have f_12 : r_8.toInt = 114 := zi_eq c_12
                          exfalso; omega
                      · have f_11 : t1_c76.toInt = 0 := zi_eq c_11
                        refine lv_aload_n hx hb dX8_isLand_124 rfl (lv_at hl 3 rfl) ?_
                        refine lv_iload_n hx hb dX8_isLand_125 rfl (lv_at hl 1 rfl) ?_
                        have k_19 := (p_X8_isVillage l D cI cB cQ H.size h sl zs ln ir tk tb tr fz na su le g0_c76 g1_c76 g2_c76 tc g3_c76 r_8 g4_c76 tbf v0 ha_g4_c76 (by omega) (by omega) (by omega) (by omega) (by omega) (by omega))
                        refine wc_i (WC := [(h, .inr (7, [.ref sl, .int na, .ref zs, .ref ln, .ref ir, .ref tk, .int su, .int le, .ref tb, .int g0_c76, .int g1_c76, .int g2_c76, .ref tr, .int tc, .ref fz, .int g3_c76])), (sl, .inl (cI, 1653, .inl g4_c76)), (tb, .inl (cB, 120, .inl tbf))]) (WR := []) (va_runV (As := [.int r_8]) (rest := []) ⟨hx, hb, hml, hown, hts⟩ k_19 (cwV 1 hts gX8_isLand_X8_isVillage rfl rfl rfl (by decide +kernel) ⟨Nat.le_of_ble_eq_true rfl, Nat.le_of_ble_eq_true rfl⟩) (wp_V hP hK hD hN [1, 0, 2] (by decide) rfl (ci := 7) rfl rfl) rfl rfl hl.1 rfl (lv_room (Nat.le_of_ble_eq_true rfl)) dX8_isLand_126 ⟨Nat.le_of_ble_eq_true rfl, Nat.le_of_ble_eq_true rfl⟩) hP hD hS hA [1, 0, 2] [] rfl rfl (by decide) (by decide) (fun r_19 => pe5 (fun v19_0 v19_1 v19_2 v19_3 v19_4 H locs hw_19 hP hD hS => ?_))
                        clear k_19
                        have hP : va_P D kl [(h, .inr (7, [.ref sl, .int na, .ref zs, .ref ln, .ref ir, .ref tk, .int su, .int le, .ref tb, .int v19_0, .int v19_1, .int v19_2, .ref tr, .int tc, .ref fz, .int v19_3])), (sl, .inl (cI, 1653, .inl v19_4)), (tb, .inl (cB, 120, .inl tbf))] H := hP
                        have hD : va_D A [(h, .inr (7, [.ref sl, .int na, .ref zs, .ref ln, .ref ir, .ref tk, .int su, .int le, .ref tb, .int v19_0, .int v19_1, .int v19_2, .ref tr, .int tc, .ref fz, .int v19_3])), (sl, .inl (cI, 1653, .inl v19_4)), (tb, .inl (cB, 120, .inl tbf))] := hD
                        obtain ⟨c19_0, c19_1, c19_2, c19_3, c19_4, c19_5⟩ := hw_19
                        have c19_1 : (g1_c76.toInt ≤ v19_1.toInt) := c19_1
                        have c19_2 : FRM (1596) (1653) g4_c76 v19_4 := c19_2
                        have c19_3 : 0 ≤ v19_1.toInt ∧ v19_1.toInt ≤ 120 := c19_3
                        have c19_4 : 0 ≤ v19_2.toInt ∧ v19_2.toInt ≤ 120 := c19_4
                        have c19_5 : SI v19_4 v0 := c19_5
                        have hf_19 : FRM (1596) (1653) sf v19_4 := FRM.trans hf_c76 (FRM.sub c19_2 (by omega) (by omega))
                        rcases c19_0 with ⟨e_19, f_19⟩ | ⟨e_19, f_19⟩
                        · subst e_19
                          have f_19 : ((((0, v19_0.toInt, v19_2.toInt, v19_1.toInt) : TPS), ur v19_4) : TPT) = tpV (tbr tbf le.toInt) ((0, g0_c76.toInt, g2_c76.toInt, g1_c76.toInt), ur g4_c76) ∧ g1_c76.toInt < v19_1.toInt ∧ (ur v19_4).1 = (ur g4_c76).1 + 1 ∧ (ur v19_4).2.1 = (ur g4_c76).2.1 := f_19
                          refine lv_istore (lv' := [(4, .int 1), (3, .int r_9), (2, .int r_8), (1, .int t1_c76), (0, .ref h)]) hx hb dX8_isLand_129 hl (by decide) rfl (fun ls hl => ?_)
                          refine lv_goto (tgt := 205) hx hb dX8_isLand_131 (by decide) ?_
                          refine lv_iload hx hb dX8_isLand_205 (lv_at hl 0 rfl) ?_
                          refine lv_if_ne (tgt := 212) hx hb dX8_isLand_207 (by decide) (fun _ => ?_) (fun c9 => absurd c9 (by decide))
                          refine lv_goto (tgt := 76) hx hb dX8_isLand_212 (by decide) ?_
                          exact ih76 t1_c76 v19_0 v19_1 v19_2 v19_3 v19_4 _ _ _ (show 0 ≤ t1_c76.toInt ∧ t1_c76.toInt ≤ 2 from by omega) (show 0 ≤ v19_1.toInt ∧ v19_1.toInt ≤ 120 from by omega) (show 0 ≤ v19_2.toInt ∧ v19_2.toInt ≤ 120 from by omega) c19_5 (show t1_c76.toInt = 0 ∨ 1 ≤ (ur v19_4).1 from by omega) (show 0 ≤ (ur v19_4).1 from by omega) (show 0 ≤ (ur v19_4).2.1 ∧ (ur v19_4).2.1 ≤ 12 from by omega) (tpq_back q0_c76 (tpq_V (fun p hp => tbr_hi hp) (by omega) (by omega) (by omega) (by omega) (by omega)) f_19.1 (by first | omega | decide)) hf_19 (by omega) (hP.sub [1, 0, 2] rfl) (hD.sub [1, 0, 2] (by decide) rfl) hS (lv_sub hl [3, 4] rfl)
                        · subst e_19
                          have f_19 : tfa (tpV (tbr tbf le.toInt) ((0, g0_c76.toInt, g2_c76.toInt, g1_c76.toInt), ur g4_c76)).1 v19_0.toInt v19_2.toInt := f_19
                          refine lv_istore (lv' := [(4, .int 0), (3, .int r_9), (2, .int r_8), (1, .int t1_c76), (0, .ref h)]) hx hb dX8_isLand_129 hl (by decide) rfl (fun ls hl => ?_)
                          refine lv_goto (tgt := 205) hx hb dX8_isLand_131 (by decide) ?_
                          refine lv_iload hx hb dX8_isLand_205 (lv_at hl 0 rfl) ?_
                          refine lv_if_ne (tgt := 212) hx hb dX8_isLand_207 (by decide) (fun c9 => absurd (by decide) c9) (fun _ => ?_)
                          refine lv_iconst (v := 0) hx hb dX8_isLand_210 (by decide) ?_
                          exact wr_z (v := 0) hx hb hr hlocks hS (v19_0, v19_1, v19_2, v19_3, v19_4) (by exact ⟨Or.inr (⟨rfl, show (tpA (tbr tbf le.toInt) le.toInt fu.toInt pp.toInt).1.1 = 1 ∧ (tpA (tbr tbf le.toInt) le.toInt fu.toInt pp.toInt).1.2.1 = v19_0.toInt ∧ (tpA (tbr tbf le.toInt) le.toInt fu.toInt pp.toInt).1.2.2.1 = v19_2.toInt from tfa_1 (tpq_fb q0_c76 (tpq_V (fun p hp => tbr_hi hp) (by omega) (by omega) (by omega) (by omega) (by omega)) f_19)⟩), show FRM (1596) (1653) sf v19_4 from hf_19, show 0 ≤ (v19_1 : Int32).toInt ∧ (v19_1 : Int32).toInt ≤ 120 from by omega, show 0 ≤ (v19_2 : Int32).toInt ∧ (v19_2 : Int32).toInt ≤ 120 from by omega, c19_5⟩) (hP.sub [0, 1, 2] rfl) (hD.sub [0, 1, 2] (by decide) rfl) dX8_isLand_211 rfl
                    · have f_10 : ¬ r_8.toInt = 103 := zi_ne c_10
                      refine lv_iload_n hx hb dX8_isLand_114 rfl (lv_at hl 1 rfl) ?_
                      refine lv_bipush (v := 99) hx hb dX8_isLand_115 (by decide) ?_
                      refine lv_icmp_ne (tgt := 134) hx hb dX8_isLand_117 (by decide) (fun c_20 => ?_) (fun c_20 => ?_)
                      · have f_20 : ¬ r_8.toInt = 99 := zi_ne c_20
                        refine lv_iload_n hx hb dX8_isLand_134 rfl (lv_at hl 1 rfl) ?_
                        refine lv_bipush (v := 114) hx hb dX8_isLand_135 (by decide) ?_
                        refine lv_icmp_ne (tgt := 167) hx hb dX8_isLand_137 (by decide) (fun c_21 => ?_) (fun c_21 => ?_)
                        · have f_21 : ¬ r_8.toInt = 114 := zi_ne c_21
                          refine lv_iload_n hx hb dX8_isLand_167 rfl (lv_at hl 0 rfl) ?_
                          refine lv_if_le (tgt := 194) hx hb dX8_isLand_168 (by decide) (fun c_22 => ?_) (fun c_22 => ?_)
                          · have f_22 : r_9.toInt ≤ 0 := zi_le c_22
                            refine lv_aload_n hx hb dX8_isLand_194 rfl (lv_at hl 3 rfl) ?_
                            refine lv_iconst (v := 1) hx hb dX8_isLand_195 (by decide) ?_
                            refine lv_aload_n hx hb dX8_isLand_196 rfl (lv_at hl 3 rfl) ?_
                            refine va_get (D := D) (ci := 7) (v := .int g1_c76) (C := RX8) (T := TX8) (N := 16) hx hb hts (fun _ h => List.mem_cons_of_mem _ (List.mem_append_right _ h)) hown hK hP 1 rfl rfl 10 (by decide) (hts (.fieldLink RX8 62 "WinterWalkModel" "at" "I") (List.mem_of_getElem? (i := 1) rfl)) (fun _ h9 => h9) rfl dX8_isLand_197 ?_
                            have k_23 := (p_X8_fails l D cI cB cQ H.size h sl zs ln ir tk tb tr fz na su le g0_c76 g1_c76 g2_c76 tc g3_c76 1 g1_c76 (by omega) (by omega))
                            refine wc_i (WC := [(h, .inr (7, [.ref sl, .int na, .ref zs, .ref ln, .ref ir, .ref tk, .int su, .int le, .ref tb, .int g0_c76, .int g1_c76, .int g2_c76, .ref tr, .int tc, .ref fz, .int g3_c76]))]) (WR := [(sl, .inl (cI, 1653, .inl g4_c76)), (tb, .inl (cB, 120, .inl tbf))]) (va_runV (As := [.int 1, .int g1_c76]) (rest := []) ⟨hx, hb, hml, hown, hts⟩ k_23 (cwV 2 hts gX8_isLand_X8_fails rfl rfl rfl (by decide +kernel) ⟨Nat.le_of_ble_eq_true rfl, Nat.le_of_ble_eq_true rfl⟩) (wp_V hP hK hD hN [1] (by decide) rfl (ci := 7) rfl rfl) rfl rfl hl.1 rfl (lv_room (Nat.le_of_ble_eq_true rfl)) dX8_isLand_200 ⟨Nat.le_of_ble_eq_true rfl, Nat.le_of_ble_eq_true rfl⟩) hP hD hS hA [1] [0, 2] rfl rfl (by decide) (by decide) (fun r_23 => pe2 (fun v23_0 v23_1 H locs hw_23 hP hD hS => ?_))
                            clear k_23
                            have hP : va_P D kl [(sl, .inl (cI, 1653, .inl g4_c76)), (tb, .inl (cB, 120, .inl tbf)), (h, .inr (7, [.ref sl, .int na, .ref zs, .ref ln, .ref ir, .ref tk, .int su, .int le, .ref tb, .int v23_0, .int g1_c76, .int v23_1, .ref tr, .int tc, .ref fz, .int g3_c76]))] H := hP
                            have hD : va_D A [(sl, .inl (cI, 1653, .inl g4_c76)), (tb, .inl (cB, 120, .inl tbf)), (h, .inr (7, [.ref sl, .int na, .ref zs, .ref ln, .ref ir, .ref tk, .int su, .int le, .ref tb, .int v23_0, .int g1_c76, .int v23_1, .ref tr, .int tc, .ref fz, .int g3_c76]))] := hD
                            obtain ⟨c23_0, c23_1, c23_2⟩ := hw_23
                            have c23_1 : v23_0.toInt = (1 : Int) ∧ v23_1.toInt = g1_c76.toInt := c23_1
                            have c23_2 : 0 ≤ v23_1.toInt ∧ v23_1.toInt ≤ 120 := c23_2
                            have e_23 := c23_0
                            · subst e_23
                              refine lv_istore (lv' := [(4, .int 0), (3, .int r_9), (2, .int r_8), (1, .int t1_c76), (0, .ref h)]) hx hb dX8_isLand_203 hl (by decide) rfl (fun ls hl => ?_)
                              refine lv_iload hx hb dX8_isLand_205 (lv_at hl 0 rfl) ?_
                              refine lv_if_ne (tgt := 212) hx hb dX8_isLand_207 (by decide) (fun c9 => absurd (by decide) c9) (fun _ => ?_)
                              refine lv_iconst (v := 0) hx hb dX8_isLand_210 (by decide) ?_
                              exact wr_z (v := 0) hx hb hr hlocks hS (v23_0, g1_c76, v23_1, g3_c76, g4_c76) (by exact ⟨Or.inr (⟨rfl, show (tpA (tbr tbf le.toInt) le.toInt fu.toInt pp.toInt).1.1 = 1 ∧ (tpA (tbr tbf le.toInt) le.toInt fu.toInt pp.toInt).1.2.1 = v23_0.toInt ∧ (tpA (tbr tbf le.toInt) le.toInt fu.toInt pp.toInt).1.2.2.1 = v23_1.toInt from tfa_1 (by rw [← q0_c76]; exact tpq_x (by omega) (by omega) (by omega) (by omega) (by omega) (by omega) (by omega) (by omega) (by omega))⟩), show FRM (1596) (1653) sf g4_c76 from hf_c76, show 0 ≤ (g1_c76 : Int32).toInt ∧ (g1_c76 : Int32).toInt ≤ 120 from by omega, show 0 ≤ (v23_1 : Int32).toInt ∧ (v23_1 : Int32).toInt ≤ 120 from by omega, ha_g4_c76⟩) (hP.sub [2, 0, 1] rfl) (hD.sub [2, 0, 1] (by decide) rfl) dX8_isLand_211 rfl
                          · have f_22 : ¬ r_9.toInt ≤ 0 := zi_nle c_22
                            refine lv_aload_n hx hb dX8_isLand_171 rfl (lv_at hl 3 rfl) ?_
                            refine va_get (D := D) (ci := 7) (v := .ref sl) (C := RX8) (T := TX8) (N := 16) hx hb hts (fun _ h => List.mem_cons_of_mem _ (List.mem_append_right _ h)) hown hK hP 1 rfl rfl 0 (by decide) (hts (.fieldLink RX8 7 "WinterWalkModel" "slot" "[I") (List.mem_of_getElem? (i := 2) rfl)) (fun _ h9 => h9) rfl dX8_isLand_172 ?_
                            refine lv_sipush (v := 1597) hx hb dX8_isLand_175 (by decide) ?_
                            refine va_iald hx hb hK hP 0 0 rfl rfl (zi_in (by decide) (by decide)) dX8_isLand_178 ?_
                            refine lv_topi (fun x_24 ex_24 => ?_)
                            have f_24 : 0 ≤ x_24.toInt ∧ x_24.toInt ≤ 8 := by rw [ex_24]; exact si_v ha_g4_c76 (s := 28) (by decide) (by omega)
                            have u_24 : x_24.toInt = (ur g4_c76).1 := by rw [ex_24]; exact ux_v
                            refine lv_if_le (tgt := 194) hx hb dX8_isLand_179 (by decide) (fun c_25 => ?_) (fun c_25 => ?_)
                            · have f_25 : (ur g4_c76).1 ≤ 0 := by
                                have h8 := zi_le c_25
                                try rw [u_24] at h8
                                exact h8
                              refine lv_aload_n hx hb dX8_isLand_194 rfl (lv_at hl 3 rfl) ?_
                              refine lv_iconst (v := 1) hx hb dX8_isLand_195 (by decide) ?_
                              refine lv_aload_n hx hb dX8_isLand_196 rfl (lv_at hl 3 rfl) ?_
                              refine va_get (D := D) (ci := 7) (v := .int g1_c76) (C := RX8) (T := TX8) (N := 16) hx hb hts (fun _ h => List.mem_cons_of_mem _ (List.mem_append_right _ h)) hown hK hP 1 rfl rfl 10 (by decide) (hts (.fieldLink RX8 62 "WinterWalkModel" "at" "I") (List.mem_of_getElem? (i := 1) rfl)) (fun _ h9 => h9) rfl dX8_isLand_197 ?_
                              have k_26 := (p_X8_fails l D cI cB cQ H.size h sl zs ln ir tk tb tr fz na su le g0_c76 g1_c76 g2_c76 tc g3_c76 1 g1_c76 (by omega) (by omega))
                              refine wc_i (WC := [(h, .inr (7, [.ref sl, .int na, .ref zs, .ref ln, .ref ir, .ref tk, .int su, .int le, .ref tb, .int g0_c76, .int g1_c76, .int g2_c76, .ref tr, .int tc, .ref fz, .int g3_c76]))]) (WR := [(sl, .inl (cI, 1653, .inl g4_c76)), (tb, .inl (cB, 120, .inl tbf))]) (va_runV (As := [.int 1, .int g1_c76]) (rest := []) ⟨hx, hb, hml, hown, hts⟩ k_26 (cwV 2 hts gX8_isLand_X8_fails rfl rfl rfl (by decide +kernel) ⟨Nat.le_of_ble_eq_true rfl, Nat.le_of_ble_eq_true rfl⟩) (wp_V hP hK hD hN [1] (by decide) rfl (ci := 7) rfl rfl) rfl rfl hl.1 rfl (lv_room (Nat.le_of_ble_eq_true rfl)) dX8_isLand_200 ⟨Nat.le_of_ble_eq_true rfl, Nat.le_of_ble_eq_true rfl⟩) hP hD hS hA [1] [0, 2] rfl rfl (by decide) (by decide) (fun r_26 => pe2 (fun v26_0 v26_1 H locs hw_26 hP hD hS => ?_))
                              clear k_26
                              have hP : va_P D kl [(sl, .inl (cI, 1653, .inl g4_c76)), (tb, .inl (cB, 120, .inl tbf)), (h, .inr (7, [.ref sl, .int na, .ref zs, .ref ln, .ref ir, .ref tk, .int su, .int le, .ref tb, .int v26_0, .int g1_c76, .int v26_1, .ref tr, .int tc, .ref fz, .int g3_c76]))] H := hP
                              have hD : va_D A [(sl, .inl (cI, 1653, .inl g4_c76)), (tb, .inl (cB, 120, .inl tbf)), (h, .inr (7, [.ref sl, .int na, .ref zs, .ref ln, .ref ir, .ref tk, .int su, .int le, .ref tb, .int v26_0, .int g1_c76, .int v26_1, .ref tr, .int tc, .ref fz, .int g3_c76]))] := hD
                              obtain ⟨c26_0, c26_1, c26_2⟩ := hw_26
                              have c26_1 : v26_0.toInt = (1 : Int) ∧ v26_1.toInt = g1_c76.toInt := c26_1
                              have c26_2 : 0 ≤ v26_1.toInt ∧ v26_1.toInt ≤ 120 := c26_2
                              have e_26 := c26_0
                              · subst e_26
                                refine lv_istore (lv' := [(4, .int 0), (3, .int r_9), (2, .int r_8), (1, .int t1_c76), (0, .ref h)]) hx hb dX8_isLand_203 hl (by decide) rfl (fun ls hl => ?_)
                                refine lv_iload hx hb dX8_isLand_205 (lv_at hl 0 rfl) ?_
                                refine lv_if_ne (tgt := 212) hx hb dX8_isLand_207 (by decide) (fun c9 => absurd (by decide) c9) (fun _ => ?_)
                                refine lv_iconst (v := 0) hx hb dX8_isLand_210 (by decide) ?_
                                exact wr_z (v := 0) hx hb hr hlocks hS (v26_0, g1_c76, v26_1, g3_c76, g4_c76) (by exact ⟨Or.inr (⟨rfl, show (tpA (tbr tbf le.toInt) le.toInt fu.toInt pp.toInt).1.1 = 1 ∧ (tpA (tbr tbf le.toInt) le.toInt fu.toInt pp.toInt).1.2.1 = v26_0.toInt ∧ (tpA (tbr tbf le.toInt) le.toInt fu.toInt pp.toInt).1.2.2.1 = v26_1.toInt from tfa_1 (by rw [← q0_c76]; exact tpq_x (by omega) (by omega) (by omega) (by omega) (by omega) (by omega) (by omega) (by omega) (by omega))⟩), show FRM (1596) (1653) sf g4_c76 from hf_c76, show 0 ≤ (g1_c76 : Int32).toInt ∧ (g1_c76 : Int32).toInt ≤ 120 from by omega, show 0 ≤ (v26_1 : Int32).toInt ∧ (v26_1 : Int32).toInt ≤ 120 from by omega, ha_g4_c76⟩) (hP.sub [2, 0, 1] rfl) (hD.sub [2, 0, 1] (by decide) rfl) dX8_isLand_211 rfl
                            · have f_25 : ¬ (ur g4_c76).1 ≤ 0 := by
                                have h8 := zi_nle c_25
                                try rw [u_24] at h8
                                exact h8
                              refine lv_iconst (v := 2) hx hb dX8_isLand_182 (by decide) ?_
                              refine lv_istore_n (lv' := [(1, .int 2), (3, .int r_9), (2, .int r_8), (0, .ref h)]) hx hb dX8_isLand_183 rfl hl (by decide) rfl (fun ls hl => ?_)
                              refine lv_aload_n hx hb dX8_isLand_184 rfl (lv_at hl 3 rfl) ?_
                              refine lv_iload_n hx hb dX8_isLand_185 rfl (lv_at hl 2 rfl) ?_
                              have k_27 := (p_X8_isWalker l D cI cB cQ H.size h sl zs ln ir tk tb tr fz na su le g0_c76 g1_c76 g2_c76 tc g3_c76 r_8 g4_c76 tbf v0 ha_g4_c76 (by omega) (by omega) (by omega) (by omega) (by omega) (by omega) (by omega))
                              refine wc_i (WC := [(h, .inr (7, [.ref sl, .int na, .ref zs, .ref ln, .ref ir, .ref tk, .int su, .int le, .ref tb, .int g0_c76, .int g1_c76, .int g2_c76, .ref tr, .int tc, .ref fz, .int g3_c76])), (sl, .inl (cI, 1653, .inl g4_c76)), (tb, .inl (cB, 120, .inl tbf))]) (WR := []) (va_runV (As := [.int r_8]) (rest := []) ⟨hx, hb, hml, hown, hts⟩ k_27 (cwV 1 hts gX8_isLand_X8_isWalker rfl rfl rfl (by decide +kernel) ⟨Nat.le_of_ble_eq_true rfl, Nat.le_of_ble_eq_true rfl⟩) (wp_V hP hK hD hN [1, 0, 2] (by decide) rfl (ci := 7) rfl rfl) rfl rfl hl.1 rfl (lv_room (Nat.le_of_ble_eq_true rfl)) dX8_isLand_186 ⟨Nat.le_of_ble_eq_true rfl, Nat.le_of_ble_eq_true rfl⟩) hP hD hS hA [1, 0, 2] [] rfl rfl (by decide) (by decide) (fun r_27 => pe5 (fun v27_0 v27_1 v27_2 v27_3 v27_4 H locs hw_27 hP hD hS => ?_))
                              clear k_27
                              have hP : va_P D kl [(h, .inr (7, [.ref sl, .int na, .ref zs, .ref ln, .ref ir, .ref tk, .int su, .int le, .ref tb, .int v27_0, .int v27_1, .int v27_2, .ref tr, .int tc, .ref fz, .int v27_3])), (sl, .inl (cI, 1653, .inl v27_4)), (tb, .inl (cB, 120, .inl tbf))] H := hP
                              have hD : va_D A [(h, .inr (7, [.ref sl, .int na, .ref zs, .ref ln, .ref ir, .ref tk, .int su, .int le, .ref tb, .int v27_0, .int v27_1, .int v27_2, .ref tr, .int tc, .ref fz, .int v27_3])), (sl, .inl (cI, 1653, .inl v27_4)), (tb, .inl (cB, 120, .inl tbf))] := hD
                              obtain ⟨c27_0, c27_1, c27_2, c27_3, c27_4, c27_5⟩ := hw_27
                              have c27_1 : (g1_c76.toInt ≤ v27_1.toInt) := c27_1
                              have c27_2 : FRM (1596) (1653) g4_c76 v27_4 := c27_2
                              have c27_3 : 0 ≤ v27_1.toInt ∧ v27_1.toInt ≤ 120 := c27_3
                              have c27_4 : 0 ≤ v27_2.toInt ∧ v27_2.toInt ≤ 120 := c27_4
                              have c27_5 : SI v27_4 v0 := c27_5
                              have hf_27 : FRM (1596) (1653) sf v27_4 := FRM.trans hf_c76 (FRM.sub c27_2 (by omega) (by omega))
                              rcases c27_0 with ⟨e_27, f_27⟩ | ⟨e_27, f_27⟩
                              · subst e_27
                                have f_27 : ((((0, v27_0.toInt, v27_2.toInt, v27_1.toInt) : TPS), ur v27_4) : TPT) = tpW (tbr tbf le.toInt) ((0, g0_c76.toInt, g2_c76.toInt, g1_c76.toInt), ur g4_c76) ∧ g1_c76.toInt < v27_1.toInt ∧ (ur v27_4).1 = (ur g4_c76).1 ∧ (ur v27_4).2.1 = (ur g4_c76).2.1 := f_27
                                refine lv_istore (lv' := [(4, .int 1), (1, .int 2), (3, .int r_9), (2, .int r_8), (0, .ref h)]) hx hb dX8_isLand_189 hl (by decide) rfl (fun ls hl => ?_)
                                refine lv_goto (tgt := 205) hx hb dX8_isLand_191 (by decide) ?_
                                refine lv_iload hx hb dX8_isLand_205 (lv_at hl 0 rfl) ?_
                                refine lv_if_ne (tgt := 212) hx hb dX8_isLand_207 (by decide) (fun _ => ?_) (fun c9 => absurd c9 (by decide))
                                refine lv_goto (tgt := 76) hx hb dX8_isLand_212 (by decide) ?_
                                exact ih76 2 v27_0 v27_1 v27_2 v27_3 v27_4 _ _ _ (show 0 ≤ 2 ∧ 2 ≤ 2 from by omega) (show 0 ≤ v27_1.toInt ∧ v27_1.toInt ≤ 120 from by omega) (show 0 ≤ v27_2.toInt ∧ v27_2.toInt ≤ 120 from by omega) c27_5 (show 2 = 0 ∨ 1 ≤ (ur v27_4).1 from by omega) (show 0 ≤ (ur v27_4).1 from by omega) (show 0 ≤ (ur v27_4).2.1 ∧ (ur v27_4).2.1 ≤ 12 from by omega) (tpq_back q0_c76 (tpq_W (fun p hp => tbr_hi hp) (by omega) (by omega) (by omega) (by omega) (by omega)) f_27.1 (by first | omega | decide)) hf_27 (by omega) (hP.sub [1, 0, 2] rfl) (hD.sub [1, 0, 2] (by decide) rfl) hS (lv_sub hl [1, 4] rfl)
                              · subst e_27
                                have f_27 : tfa (tpW (tbr tbf le.toInt) ((0, g0_c76.toInt, g2_c76.toInt, g1_c76.toInt), ur g4_c76)).1 v27_0.toInt v27_2.toInt := f_27
                                refine lv_istore (lv' := [(4, .int 0), (1, .int 2), (3, .int r_9), (2, .int r_8), (0, .ref h)]) hx hb dX8_isLand_189 hl (by decide) rfl (fun ls hl => ?_)
                                refine lv_goto (tgt := 205) hx hb dX8_isLand_191 (by decide) ?_
                                refine lv_iload hx hb dX8_isLand_205 (lv_at hl 0 rfl) ?_
                                refine lv_if_ne (tgt := 212) hx hb dX8_isLand_207 (by decide) (fun c9 => absurd (by decide) c9) (fun _ => ?_)
                                refine lv_iconst (v := 0) hx hb dX8_isLand_210 (by decide) ?_
                                exact wr_z (v := 0) hx hb hr hlocks hS (v27_0, v27_1, v27_2, v27_3, v27_4) (by exact ⟨Or.inr (⟨rfl, show (tpA (tbr tbf le.toInt) le.toInt fu.toInt pp.toInt).1.1 = 1 ∧ (tpA (tbr tbf le.toInt) le.toInt fu.toInt pp.toInt).1.2.1 = v27_0.toInt ∧ (tpA (tbr tbf le.toInt) le.toInt fu.toInt pp.toInt).1.2.2.1 = v27_2.toInt from tfa_1 (tpq_fb q0_c76 (tpq_W (fun p hp => tbr_hi hp) (by omega) (by omega) (by omega) (by omega) (by omega)) f_27)⟩), show FRM (1596) (1653) sf v27_4 from hf_27, show 0 ≤ (v27_1 : Int32).toInt ∧ (v27_1 : Int32).toInt ≤ 120 from by omega, show 0 ≤ (v27_2 : Int32).toInt ∧ (v27_2 : Int32).toInt ≤ 120 from by omega, c27_5⟩) (hP.sub [0, 1, 2] rfl) (hD.sub [0, 1, 2] (by decide) rfl) dX8_isLand_211 rfl
                        · have f_21 : r_8.toInt = 114 := zi_eq c_21
                          refine lv_iload_n hx hb dX8_isLand_140 rfl (lv_at hl 2 rfl) ?_
                          refine lv_iconst (v := 2) hx hb dX8_isLand_141 (by decide) ?_
                          refine lv_icmp_ge (tgt := 167) hx hb dX8_isLand_142 (by decide) (fun c_28 => ?_) (fun c_28 => ?_)
                          · have f_28 : 2 ≤ t1_c76.toInt := zi_le c_28
                            refine lv_iload_n hx hb dX8_isLand_167 rfl (lv_at hl 0 rfl) ?_
                            refine lv_if_le (tgt := 194) hx hb dX8_isLand_168 (by decide) (fun c_29 => ?_) (fun c_29 => ?_)
                            · have f_29 : r_9.toInt ≤ 0 := zi_le c_29
                              refine lv_aload_n hx hb dX8_isLand_194 rfl (lv_at hl 3 rfl) ?_
                              refine lv_iconst (v := 1) hx hb dX8_isLand_195 (by decide) ?_
                              refine lv_aload_n hx hb dX8_isLand_196 rfl (lv_at hl 3 rfl) ?_
                              refine va_get (D := D) (ci := 7) (v := .int g1_c76) (C := RX8) (T := TX8) (N := 16) hx hb hts (fun _ h => List.mem_cons_of_mem _ (List.mem_append_right _ h)) hown hK hP 1 rfl rfl 10 (by decide) (hts (.fieldLink RX8 62 "WinterWalkModel" "at" "I") (List.mem_of_getElem? (i := 1) rfl)) (fun _ h9 => h9) rfl dX8_isLand_197 ?_
                              have k_30 := (p_X8_fails l D cI cB cQ H.size h sl zs ln ir tk tb tr fz na su le g0_c76 g1_c76 g2_c76 tc g3_c76 1 g1_c76 (by omega) (by omega))
                              refine wc_i (WC := [(h, .inr (7, [.ref sl, .int na, .ref zs, .ref ln, .ref ir, .ref tk, .int su, .int le, .ref tb, .int g0_c76, .int g1_c76, .int g2_c76, .ref tr, .int tc, .ref fz, .int g3_c76]))]) (WR := [(sl, .inl (cI, 1653, .inl g4_c76)), (tb, .inl (cB, 120, .inl tbf))]) (va_runV (As := [.int 1, .int g1_c76]) (rest := []) ⟨hx, hb, hml, hown, hts⟩ k_30 (cwV 2 hts gX8_isLand_X8_fails rfl rfl rfl (by decide +kernel) ⟨Nat.le_of_ble_eq_true rfl, Nat.le_of_ble_eq_true rfl⟩) (wp_V hP hK hD hN [1] (by decide) rfl (ci := 7) rfl rfl) rfl rfl hl.1 rfl (lv_room (Nat.le_of_ble_eq_true rfl)) dX8_isLand_200 ⟨Nat.le_of_ble_eq_true rfl, Nat.le_of_ble_eq_true rfl⟩) hP hD hS hA [1] [0, 2] rfl rfl (by decide) (by decide) (fun r_30 => pe2 (fun v30_0 v30_1 H locs hw_30 hP hD hS => ?_))
                              clear k_30
                              have hP : va_P D kl [(sl, .inl (cI, 1653, .inl g4_c76)), (tb, .inl (cB, 120, .inl tbf)), (h, .inr (7, [.ref sl, .int na, .ref zs, .ref ln, .ref ir, .ref tk, .int su, .int le, .ref tb, .int v30_0, .int g1_c76, .int v30_1, .ref tr, .int tc, .ref fz, .int g3_c76]))] H := hP
                              have hD : va_D A [(sl, .inl (cI, 1653, .inl g4_c76)), (tb, .inl (cB, 120, .inl tbf)), (h, .inr (7, [.ref sl, .int na, .ref zs, .ref ln, .ref ir, .ref tk, .int su, .int le, .ref tb, .int v30_0, .int g1_c76, .int v30_1, .ref tr, .int tc, .ref fz, .int g3_c76]))] := hD
                              obtain ⟨c30_0, c30_1, c30_2⟩ := hw_30
                              have c30_1 : v30_0.toInt = (1 : Int) ∧ v30_1.toInt = g1_c76.toInt := c30_1
                              have c30_2 : 0 ≤ v30_1.toInt ∧ v30_1.toInt ≤ 120 := c30_2
                              have e_30 := c30_0
                              · subst e_30
                                refine lv_istore (lv' := [(4, .int 0), (3, .int r_9), (2, .int r_8), (1, .int t1_c76), (0, .ref h)]) hx hb dX8_isLand_203 hl (by decide) rfl (fun ls hl => ?_)
                                refine lv_iload hx hb dX8_isLand_205 (lv_at hl 0 rfl) ?_
                                refine lv_if_ne (tgt := 212) hx hb dX8_isLand_207 (by decide) (fun c9 => absurd (by decide) c9) (fun _ => ?_)
                                refine lv_iconst (v := 0) hx hb dX8_isLand_210 (by decide) ?_
                                exact wr_z (v := 0) hx hb hr hlocks hS (v30_0, g1_c76, v30_1, g3_c76, g4_c76) (by exact ⟨Or.inr (⟨rfl, show (tpA (tbr tbf le.toInt) le.toInt fu.toInt pp.toInt).1.1 = 1 ∧ (tpA (tbr tbf le.toInt) le.toInt fu.toInt pp.toInt).1.2.1 = v30_0.toInt ∧ (tpA (tbr tbf le.toInt) le.toInt fu.toInt pp.toInt).1.2.2.1 = v30_1.toInt from tfa_1 (by rw [← q0_c76]; exact tpq_x (by omega) (by omega) (by omega) (by omega) (by omega) (by omega) (by omega) (by omega) (by omega))⟩), show FRM (1596) (1653) sf g4_c76 from hf_c76, show 0 ≤ (g1_c76 : Int32).toInt ∧ (g1_c76 : Int32).toInt ≤ 120 from by omega, show 0 ≤ (v30_1 : Int32).toInt ∧ (v30_1 : Int32).toInt ≤ 120 from by omega, ha_g4_c76⟩) (hP.sub [2, 0, 1] rfl) (hD.sub [2, 0, 1] (by decide) rfl) dX8_isLand_211 rfl
                            · have f_29 : ¬ r_9.toInt ≤ 0 := zi_nle c_29
                              refine lv_aload_n hx hb dX8_isLand_171 rfl (lv_at hl 3 rfl) ?_
                              refine va_get (D := D) (ci := 7) (v := .ref sl) (C := RX8) (T := TX8) (N := 16) hx hb hts (fun _ h => List.mem_cons_of_mem _ (List.mem_append_right _ h)) hown hK hP 1 rfl rfl 0 (by decide) (hts (.fieldLink RX8 7 "WinterWalkModel" "slot" "[I") (List.mem_of_getElem? (i := 2) rfl)) (fun _ h9 => h9) rfl dX8_isLand_172 ?_
                              refine lv_sipush (v := 1597) hx hb dX8_isLand_175 (by decide) ?_
                              refine va_iald hx hb hK hP 0 0 rfl rfl (zi_in (by decide) (by decide)) dX8_isLand_178 ?_
                              refine lv_topi (fun x_31 ex_31 => ?_)
                              have f_31 : 0 ≤ x_31.toInt ∧ x_31.toInt ≤ 8 := by rw [ex_31]; exact si_v ha_g4_c76 (s := 28) (by decide) (by omega)
                              have u_31 : x_31.toInt = (ur g4_c76).1 := by rw [ex_31]; exact ux_v
                              refine lv_if_le (tgt := 194) hx hb dX8_isLand_179 (by decide) (fun c_32 => ?_) (fun c_32 => ?_)
                              · have f_32 : (ur g4_c76).1 ≤ 0 := by
                                  have h8 := zi_le c_32
                                  try rw [u_31] at h8
                                  exact h8
                                refine lv_aload_n hx hb dX8_isLand_194 rfl (lv_at hl 3 rfl) ?_
                                refine lv_iconst (v := 1) hx hb dX8_isLand_195 (by decide) ?_
                                refine lv_aload_n hx hb dX8_isLand_196 rfl (lv_at hl 3 rfl) ?_
                                refine va_get (D := D) (ci := 7) (v := .int g1_c76) (C := RX8) (T := TX8) (N := 16) hx hb hts (fun _ h => List.mem_cons_of_mem _ (List.mem_append_right _ h)) hown hK hP 1 rfl rfl 10 (by decide) (hts (.fieldLink RX8 62 "WinterWalkModel" "at" "I") (List.mem_of_getElem? (i := 1) rfl)) (fun _ h9 => h9) rfl dX8_isLand_197 ?_
                                have k_33 := (p_X8_fails l D cI cB cQ H.size h sl zs ln ir tk tb tr fz na su le g0_c76 g1_c76 g2_c76 tc g3_c76 1 g1_c76 (by omega) (by omega))
                                refine wc_i (WC := [(h, .inr (7, [.ref sl, .int na, .ref zs, .ref ln, .ref ir, .ref tk, .int su, .int le, .ref tb, .int g0_c76, .int g1_c76, .int g2_c76, .ref tr, .int tc, .ref fz, .int g3_c76]))]) (WR := [(sl, .inl (cI, 1653, .inl g4_c76)), (tb, .inl (cB, 120, .inl tbf))]) (va_runV (As := [.int 1, .int g1_c76]) (rest := []) ⟨hx, hb, hml, hown, hts⟩ k_33 (cwV 2 hts gX8_isLand_X8_fails rfl rfl rfl (by decide +kernel) ⟨Nat.le_of_ble_eq_true rfl, Nat.le_of_ble_eq_true rfl⟩) (wp_V hP hK hD hN [1] (by decide) rfl (ci := 7) rfl rfl) rfl rfl hl.1 rfl (lv_room (Nat.le_of_ble_eq_true rfl)) dX8_isLand_200 ⟨Nat.le_of_ble_eq_true rfl, Nat.le_of_ble_eq_true rfl⟩) hP hD hS hA [1] [0, 2] rfl rfl (by decide) (by decide) (fun r_33 => pe2 (fun v33_0 v33_1 H locs hw_33 hP hD hS => ?_))
                                clear k_33
                                have hP : va_P D kl [(sl, .inl (cI, 1653, .inl g4_c76)), (tb, .inl (cB, 120, .inl tbf)), (h, .inr (7, [.ref sl, .int na, .ref zs, .ref ln, .ref ir, .ref tk, .int su, .int le, .ref tb, .int v33_0, .int g1_c76, .int v33_1, .ref tr, .int tc, .ref fz, .int g3_c76]))] H := hP
                                have hD : va_D A [(sl, .inl (cI, 1653, .inl g4_c76)), (tb, .inl (cB, 120, .inl tbf)), (h, .inr (7, [.ref sl, .int na, .ref zs, .ref ln, .ref ir, .ref tk, .int su, .int le, .ref tb, .int v33_0, .int g1_c76, .int v33_1, .ref tr, .int tc, .ref fz, .int g3_c76]))] := hD
                                obtain ⟨c33_0, c33_1, c33_2⟩ := hw_33
                                have c33_1 : v33_0.toInt = (1 : Int) ∧ v33_1.toInt = g1_c76.toInt := c33_1
                                have c33_2 : 0 ≤ v33_1.toInt ∧ v33_1.toInt ≤ 120 := c33_2
                                have e_33 := c33_0
                                · subst e_33
                                  refine lv_istore (lv' := [(4, .int 0), (3, .int r_9), (2, .int r_8), (1, .int t1_c76), (0, .ref h)]) hx hb dX8_isLand_203 hl (by decide) rfl (fun ls hl => ?_)
                                  refine lv_iload hx hb dX8_isLand_205 (lv_at hl 0 rfl) ?_
                                  refine lv_if_ne (tgt := 212) hx hb dX8_isLand_207 (by decide) (fun c9 => absurd (by decide) c9) (fun _ => ?_)
                                  refine lv_iconst (v := 0) hx hb dX8_isLand_210 (by decide) ?_
                                  exact wr_z (v := 0) hx hb hr hlocks hS (v33_0, g1_c76, v33_1, g3_c76, g4_c76) (by exact ⟨Or.inr (⟨rfl, show (tpA (tbr tbf le.toInt) le.toInt fu.toInt pp.toInt).1.1 = 1 ∧ (tpA (tbr tbf le.toInt) le.toInt fu.toInt pp.toInt).1.2.1 = v33_0.toInt ∧ (tpA (tbr tbf le.toInt) le.toInt fu.toInt pp.toInt).1.2.2.1 = v33_1.toInt from tfa_1 (by rw [← q0_c76]; exact tpq_x (by omega) (by omega) (by omega) (by omega) (by omega) (by omega) (by omega) (by omega) (by omega))⟩), show FRM (1596) (1653) sf g4_c76 from hf_c76, show 0 ≤ (g1_c76 : Int32).toInt ∧ (g1_c76 : Int32).toInt ≤ 120 from by omega, show 0 ≤ (v33_1 : Int32).toInt ∧ (v33_1 : Int32).toInt ≤ 120 from by omega, ha_g4_c76⟩) (hP.sub [2, 0, 1] rfl) (hD.sub [2, 0, 1] (by decide) rfl) dX8_isLand_211 rfl
                              · have f_32 : ¬ (ur g4_c76).1 ≤ 0 := by
                                  have h8 := zi_nle c_32
                                  try rw [u_31] at h8
                                  exact h8
                                refine lv_iconst (v := 2) hx hb dX8_isLand_182 (by decide) ?_
                                refine lv_istore_n (lv' := [(1, .int 2), (3, .int r_9), (2, .int r_8), (0, .ref h)]) hx hb dX8_isLand_183 rfl hl (by decide) rfl (fun ls hl => ?_)
                                refine lv_aload_n hx hb dX8_isLand_184 rfl (lv_at hl 3 rfl) ?_
                                refine lv_iload_n hx hb dX8_isLand_185 rfl (lv_at hl 2 rfl) ?_
                                have k_34 := (p_X8_isWalker l D cI cB cQ H.size h sl zs ln ir tk tb tr fz na su le g0_c76 g1_c76 g2_c76 tc g3_c76 r_8 g4_c76 tbf v0 ha_g4_c76 (by omega) (by omega) (by omega) (by omega) (by omega) (by omega) (by omega))
                                refine wc_i (WC := [(h, .inr (7, [.ref sl, .int na, .ref zs, .ref ln, .ref ir, .ref tk, .int su, .int le, .ref tb, .int g0_c76, .int g1_c76, .int g2_c76, .ref tr, .int tc, .ref fz, .int g3_c76])), (sl, .inl (cI, 1653, .inl g4_c76)), (tb, .inl (cB, 120, .inl tbf))]) (WR := []) (va_runV (As := [.int r_8]) (rest := []) ⟨hx, hb, hml, hown, hts⟩ k_34 (cwV 1 hts gX8_isLand_X8_isWalker rfl rfl rfl (by decide +kernel) ⟨Nat.le_of_ble_eq_true rfl, Nat.le_of_ble_eq_true rfl⟩) (wp_V hP hK hD hN [1, 0, 2] (by decide) rfl (ci := 7) rfl rfl) rfl rfl hl.1 rfl (lv_room (Nat.le_of_ble_eq_true rfl)) dX8_isLand_186 ⟨Nat.le_of_ble_eq_true rfl, Nat.le_of_ble_eq_true rfl⟩) hP hD hS hA [1, 0, 2] [] rfl rfl (by decide) (by decide) (fun r_34 => pe5 (fun v34_0 v34_1 v34_2 v34_3 v34_4 H locs hw_34 hP hD hS => ?_))
                                clear k_34
                                have hP : va_P D kl [(h, .inr (7, [.ref sl, .int na, .ref zs, .ref ln, .ref ir, .ref tk, .int su, .int le, .ref tb, .int v34_0, .int v34_1, .int v34_2, .ref tr, .int tc, .ref fz, .int v34_3])), (sl, .inl (cI, 1653, .inl v34_4)), (tb, .inl (cB, 120, .inl tbf))] H := hP
                                have hD : va_D A [(h, .inr (7, [.ref sl, .int na, .ref zs, .ref ln, .ref ir, .ref tk, .int su, .int le, .ref tb, .int v34_0, .int v34_1, .int v34_2, .ref tr, .int tc, .ref fz, .int v34_3])), (sl, .inl (cI, 1653, .inl v34_4)), (tb, .inl (cB, 120, .inl tbf))] := hD
                                obtain ⟨c34_0, c34_1, c34_2, c34_3, c34_4, c34_5⟩ := hw_34
                                have c34_1 : (g1_c76.toInt ≤ v34_1.toInt) := c34_1
                                have c34_2 : FRM (1596) (1653) g4_c76 v34_4 := c34_2
                                have c34_3 : 0 ≤ v34_1.toInt ∧ v34_1.toInt ≤ 120 := c34_3
                                have c34_4 : 0 ≤ v34_2.toInt ∧ v34_2.toInt ≤ 120 := c34_4
                                have c34_5 : SI v34_4 v0 := c34_5
                                have hf_34 : FRM (1596) (1653) sf v34_4 := FRM.trans hf_c76 (FRM.sub c34_2 (by omega) (by omega))
                                rcases c34_0 with ⟨e_34, f_34⟩ | ⟨e_34, f_34⟩
                                · subst e_34
                                  have f_34 : ((((0, v34_0.toInt, v34_2.toInt, v34_1.toInt) : TPS), ur v34_4) : TPT) = tpW (tbr tbf le.toInt) ((0, g0_c76.toInt, g2_c76.toInt, g1_c76.toInt), ur g4_c76) ∧ g1_c76.toInt < v34_1.toInt ∧ (ur v34_4).1 = (ur g4_c76).1 ∧ (ur v34_4).2.1 = (ur g4_c76).2.1 := f_34
                                  refine lv_istore (lv' := [(4, .int 1), (1, .int 2), (3, .int r_9), (2, .int r_8), (0, .ref h)]) hx hb dX8_isLand_189 hl (by decide) rfl (fun ls hl => ?_)
                                  refine lv_goto (tgt := 205) hx hb dX8_isLand_191 (by decide) ?_
                                  refine lv_iload hx hb dX8_isLand_205 (lv_at hl 0 rfl) ?_
                                  refine lv_if_ne (tgt := 212) hx hb dX8_isLand_207 (by decide) (fun _ => ?_) (fun c9 => absurd c9 (by decide))
                                  refine lv_goto (tgt := 76) hx hb dX8_isLand_212 (by decide) ?_
                                  exact ih76 2 v34_0 v34_1 v34_2 v34_3 v34_4 _ _ _ (show 0 ≤ 2 ∧ 2 ≤ 2 from by omega) (show 0 ≤ v34_1.toInt ∧ v34_1.toInt ≤ 120 from by omega) (show 0 ≤ v34_2.toInt ∧ v34_2.toInt ≤ 120 from by omega) c34_5 (show 2 = 0 ∨ 1 ≤ (ur v34_4).1 from by omega) (show 0 ≤ (ur v34_4).1 from by omega) (show 0 ≤ (ur v34_4).2.1 ∧ (ur v34_4).2.1 ≤ 12 from by omega) (tpq_back q0_c76 (tpq_W (fun p hp => tbr_hi hp) (by omega) (by omega) (by omega) (by omega) (by omega)) f_34.1 (by first | omega | decide)) hf_34 (by omega) (hP.sub [1, 0, 2] rfl) (hD.sub [1, 0, 2] (by decide) rfl) hS (lv_sub hl [1, 4] rfl)
                                · subst e_34
                                  have f_34 : tfa (tpW (tbr tbf le.toInt) ((0, g0_c76.toInt, g2_c76.toInt, g1_c76.toInt), ur g4_c76)).1 v34_0.toInt v34_2.toInt := f_34
                                  refine lv_istore (lv' := [(4, .int 0), (1, .int 2), (3, .int r_9), (2, .int r_8), (0, .ref h)]) hx hb dX8_isLand_189 hl (by decide) rfl (fun ls hl => ?_)
                                  refine lv_goto (tgt := 205) hx hb dX8_isLand_191 (by decide) ?_
                                  refine lv_iload hx hb dX8_isLand_205 (lv_at hl 0 rfl) ?_
                                  refine lv_if_ne (tgt := 212) hx hb dX8_isLand_207 (by decide) (fun c9 => absurd (by decide) c9) (fun _ => ?_)
                                  refine lv_iconst (v := 0) hx hb dX8_isLand_210 (by decide) ?_
                                  exact wr_z (v := 0) hx hb hr hlocks hS (v34_0, v34_1, v34_2, v34_3, v34_4) (by exact ⟨Or.inr (⟨rfl, show (tpA (tbr tbf le.toInt) le.toInt fu.toInt pp.toInt).1.1 = 1 ∧ (tpA (tbr tbf le.toInt) le.toInt fu.toInt pp.toInt).1.2.1 = v34_0.toInt ∧ (tpA (tbr tbf le.toInt) le.toInt fu.toInt pp.toInt).1.2.2.1 = v34_2.toInt from tfa_1 (tpq_fb q0_c76 (tpq_W (fun p hp => tbr_hi hp) (by omega) (by omega) (by omega) (by omega) (by omega)) f_34)⟩), show FRM (1596) (1653) sf v34_4 from hf_34, show 0 ≤ (v34_1 : Int32).toInt ∧ (v34_1 : Int32).toInt ≤ 120 from by omega, show 0 ≤ (v34_2 : Int32).toInt ∧ (v34_2 : Int32).toInt ≤ 120 from by omega, c34_5⟩) (hP.sub [0, 1, 2] rfl) (hD.sub [0, 1, 2] (by decide) rfl) dX8_isLand_211 rfl
                          · have f_28 : ¬ 2 ≤ t1_c76.toInt := zi_nle c_28
                            refine lv_aload_n hx hb dX8_isLand_145 rfl (lv_at hl 3 rfl) ?_
                            refine va_get (D := D) (ci := 7) (v := .ref sl) (C := RX8) (T := TX8) (N := 16) hx hb hts (fun _ h => List.mem_cons_of_mem _ (List.mem_append_right _ h)) hown hK hP 1 rfl rfl 0 (by decide) (hts (.fieldLink RX8 7 "WinterWalkModel" "slot" "[I") (List.mem_of_getElem? (i := 2) rfl)) (fun _ h9 => h9) rfl dX8_isLand_146 ?_
                            refine lv_sipush (v := 1597) hx hb dX8_isLand_149 (by decide) ?_
                            refine va_iald hx hb hK hP 0 0 rfl rfl (zi_in (by decide) (by decide)) dX8_isLand_152 ?_
                            refine lv_topi (fun x_35 ex_35 => ?_)
                            have f_35 : 0 ≤ x_35.toInt ∧ x_35.toInt ≤ 8 := by rw [ex_35]; exact si_v ha_g4_c76 (s := 28) (by decide) (by omega)
                            have u_35 : x_35.toInt = (ur g4_c76).1 := by rw [ex_35]; exact ux_v
                            refine lv_if_le (tgt := 167) hx hb dX8_isLand_153 (by decide) (fun c_36 => ?_) (fun c_36 => ?_)
                            · have f_36 : (ur g4_c76).1 ≤ 0 := by
                                have h8 := zi_le c_36
                                try rw [u_35] at h8
                                exact h8
                              refine lv_iload_n hx hb dX8_isLand_167 rfl (lv_at hl 0 rfl) ?_
                              refine lv_if_le (tgt := 194) hx hb dX8_isLand_168 (by decide) (fun c_37 => ?_) (fun c_37 => ?_)
                              · have f_37 : r_9.toInt ≤ 0 := zi_le c_37
                                refine lv_aload_n hx hb dX8_isLand_194 rfl (lv_at hl 3 rfl) ?_
                                refine lv_iconst (v := 1) hx hb dX8_isLand_195 (by decide) ?_
                                refine lv_aload_n hx hb dX8_isLand_196 rfl (lv_at hl 3 rfl) ?_
                                refine va_get (D := D) (ci := 7) (v := .int g1_c76) (C := RX8) (T := TX8) (N := 16) hx hb hts (fun _ h => List.mem_cons_of_mem _ (List.mem_append_right _ h)) hown hK hP 1 rfl rfl 10 (by decide) (hts (.fieldLink RX8 62 "WinterWalkModel" "at" "I") (List.mem_of_getElem? (i := 1) rfl)) (fun _ h9 => h9) rfl dX8_isLand_197 ?_
                                have k_38 := (p_X8_fails l D cI cB cQ H.size h sl zs ln ir tk tb tr fz na su le g0_c76 g1_c76 g2_c76 tc g3_c76 1 g1_c76 (by omega) (by omega))
                                refine wc_i (WC := [(h, .inr (7, [.ref sl, .int na, .ref zs, .ref ln, .ref ir, .ref tk, .int su, .int le, .ref tb, .int g0_c76, .int g1_c76, .int g2_c76, .ref tr, .int tc, .ref fz, .int g3_c76]))]) (WR := [(sl, .inl (cI, 1653, .inl g4_c76)), (tb, .inl (cB, 120, .inl tbf))]) (va_runV (As := [.int 1, .int g1_c76]) (rest := []) ⟨hx, hb, hml, hown, hts⟩ k_38 (cwV 2 hts gX8_isLand_X8_fails rfl rfl rfl (by decide +kernel) ⟨Nat.le_of_ble_eq_true rfl, Nat.le_of_ble_eq_true rfl⟩) (wp_V hP hK hD hN [1] (by decide) rfl (ci := 7) rfl rfl) rfl rfl hl.1 rfl (lv_room (Nat.le_of_ble_eq_true rfl)) dX8_isLand_200 ⟨Nat.le_of_ble_eq_true rfl, Nat.le_of_ble_eq_true rfl⟩) hP hD hS hA [1] [0, 2] rfl rfl (by decide) (by decide) (fun r_38 => pe2 (fun v38_0 v38_1 H locs hw_38 hP hD hS => ?_))
                                clear k_38
                                have hP : va_P D kl [(sl, .inl (cI, 1653, .inl g4_c76)), (tb, .inl (cB, 120, .inl tbf)), (h, .inr (7, [.ref sl, .int na, .ref zs, .ref ln, .ref ir, .ref tk, .int su, .int le, .ref tb, .int v38_0, .int g1_c76, .int v38_1, .ref tr, .int tc, .ref fz, .int g3_c76]))] H := hP
                                have hD : va_D A [(sl, .inl (cI, 1653, .inl g4_c76)), (tb, .inl (cB, 120, .inl tbf)), (h, .inr (7, [.ref sl, .int na, .ref zs, .ref ln, .ref ir, .ref tk, .int su, .int le, .ref tb, .int v38_0, .int g1_c76, .int v38_1, .ref tr, .int tc, .ref fz, .int g3_c76]))] := hD
                                obtain ⟨c38_0, c38_1, c38_2⟩ := hw_38
                                have c38_1 : v38_0.toInt = (1 : Int) ∧ v38_1.toInt = g1_c76.toInt := c38_1
                                have c38_2 : 0 ≤ v38_1.toInt ∧ v38_1.toInt ≤ 120 := c38_2
                                have e_38 := c38_0
                                · subst e_38
                                  refine lv_istore (lv' := [(4, .int 0), (3, .int r_9), (2, .int r_8), (1, .int t1_c76), (0, .ref h)]) hx hb dX8_isLand_203 hl (by decide) rfl (fun ls hl => ?_)
                                  refine lv_iload hx hb dX8_isLand_205 (lv_at hl 0 rfl) ?_
                                  refine lv_if_ne (tgt := 212) hx hb dX8_isLand_207 (by decide) (fun c9 => absurd (by decide) c9) (fun _ => ?_)
                                  refine lv_iconst (v := 0) hx hb dX8_isLand_210 (by decide) ?_
                                  exact wr_z (v := 0) hx hb hr hlocks hS (v38_0, g1_c76, v38_1, g3_c76, g4_c76) (by exact ⟨Or.inr (⟨rfl, show (tpA (tbr tbf le.toInt) le.toInt fu.toInt pp.toInt).1.1 = 1 ∧ (tpA (tbr tbf le.toInt) le.toInt fu.toInt pp.toInt).1.2.1 = v38_0.toInt ∧ (tpA (tbr tbf le.toInt) le.toInt fu.toInt pp.toInt).1.2.2.1 = v38_1.toInt from tfa_1 (by rw [← q0_c76]; exact tpq_x (by omega) (by omega) (by omega) (by omega) (by omega) (by omega) (by omega) (by omega) (by omega))⟩), show FRM (1596) (1653) sf g4_c76 from hf_c76, show 0 ≤ (g1_c76 : Int32).toInt ∧ (g1_c76 : Int32).toInt ≤ 120 from by omega, show 0 ≤ (v38_1 : Int32).toInt ∧ (v38_1 : Int32).toInt ≤ 120 from by omega, ha_g4_c76⟩) (hP.sub [2, 0, 1] rfl) (hD.sub [2, 0, 1] (by decide) rfl) dX8_isLand_211 rfl
                              · have f_37 : ¬ r_9.toInt ≤ 0 := zi_nle c_37
                                refine lv_aload_n hx hb dX8_isLand_171 rfl (lv_at hl 3 rfl) ?_
                                refine va_get (D := D) (ci := 7) (v := .ref sl) (C := RX8) (T := TX8) (N := 16) hx hb hts (fun _ h => List.mem_cons_of_mem _ (List.mem_append_right _ h)) hown hK hP 1 rfl rfl 0 (by decide) (hts (.fieldLink RX8 7 "WinterWalkModel" "slot" "[I") (List.mem_of_getElem? (i := 2) rfl)) (fun _ h9 => h9) rfl dX8_isLand_172 ?_
                                refine lv_sipush (v := 1597) hx hb dX8_isLand_175 (by decide) ?_
                                refine va_iald hx hb hK hP 0 0 rfl rfl (zi_in (by decide) (by decide)) dX8_isLand_178 ?_
                                refine lv_topi (fun x_39 ex_39 => ?_)
                                have f_39 : 0 ≤ x_39.toInt ∧ x_39.toInt ≤ 8 := by rw [ex_39]; exact si_v ha_g4_c76 (s := 28) (by decide) (by omega)
                                have u_39 : x_39.toInt = (ur g4_c76).1 := by rw [ex_39]; exact ux_v
                                refine lv_if_le (tgt := 194) hx hb dX8_isLand_179 (by decide) (fun c_40 => ?_) (fun c_40 => ?_)
                                · have f_40 : (ur g4_c76).1 ≤ 0 := by
                                    have h8 := zi_le c_40
                                    try rw [u_39] at h8
                                    exact h8
                                  refine lv_aload_n hx hb dX8_isLand_194 rfl (lv_at hl 3 rfl) ?_
                                  refine lv_iconst (v := 1) hx hb dX8_isLand_195 (by decide) ?_
                                  refine lv_aload_n hx hb dX8_isLand_196 rfl (lv_at hl 3 rfl) ?_
                                  refine va_get (D := D) (ci := 7) (v := .int g1_c76) (C := RX8) (T := TX8) (N := 16) hx hb hts (fun _ h => List.mem_cons_of_mem _ (List.mem_append_right _ h)) hown hK hP 1 rfl rfl 10 (by decide) (hts (.fieldLink RX8 62 "WinterWalkModel" "at" "I") (List.mem_of_getElem? (i := 1) rfl)) (fun _ h9 => h9) rfl dX8_isLand_197 ?_
                                  have k_41 := (p_X8_fails l D cI cB cQ H.size h sl zs ln ir tk tb tr fz na su le g0_c76 g1_c76 g2_c76 tc g3_c76 1 g1_c76 (by omega) (by omega))
                                  refine wc_i (WC := [(h, .inr (7, [.ref sl, .int na, .ref zs, .ref ln, .ref ir, .ref tk, .int su, .int le, .ref tb, .int g0_c76, .int g1_c76, .int g2_c76, .ref tr, .int tc, .ref fz, .int g3_c76]))]) (WR := [(sl, .inl (cI, 1653, .inl g4_c76)), (tb, .inl (cB, 120, .inl tbf))]) (va_runV (As := [.int 1, .int g1_c76]) (rest := []) ⟨hx, hb, hml, hown, hts⟩ k_41 (cwV 2 hts gX8_isLand_X8_fails rfl rfl rfl (by decide +kernel) ⟨Nat.le_of_ble_eq_true rfl, Nat.le_of_ble_eq_true rfl⟩) (wp_V hP hK hD hN [1] (by decide) rfl (ci := 7) rfl rfl) rfl rfl hl.1 rfl (lv_room (Nat.le_of_ble_eq_true rfl)) dX8_isLand_200 ⟨Nat.le_of_ble_eq_true rfl, Nat.le_of_ble_eq_true rfl⟩) hP hD hS hA [1] [0, 2] rfl rfl (by decide) (by decide) (fun r_41 => pe2 (fun v41_0 v41_1 H locs hw_41 hP hD hS => ?_))
                                  clear k_41
                                  have hP : va_P D kl [(sl, .inl (cI, 1653, .inl g4_c76)), (tb, .inl (cB, 120, .inl tbf)), (h, .inr (7, [.ref sl, .int na, .ref zs, .ref ln, .ref ir, .ref tk, .int su, .int le, .ref tb, .int v41_0, .int g1_c76, .int v41_1, .ref tr, .int tc, .ref fz, .int g3_c76]))] H := hP
                                  have hD : va_D A [(sl, .inl (cI, 1653, .inl g4_c76)), (tb, .inl (cB, 120, .inl tbf)), (h, .inr (7, [.ref sl, .int na, .ref zs, .ref ln, .ref ir, .ref tk, .int su, .int le, .ref tb, .int v41_0, .int g1_c76, .int v41_1, .ref tr, .int tc, .ref fz, .int g3_c76]))] := hD
                                  obtain ⟨c41_0, c41_1, c41_2⟩ := hw_41
                                  have c41_1 : v41_0.toInt = (1 : Int) ∧ v41_1.toInt = g1_c76.toInt := c41_1
                                  have c41_2 : 0 ≤ v41_1.toInt ∧ v41_1.toInt ≤ 120 := c41_2
                                  have e_41 := c41_0
                                  · subst e_41
                                    refine lv_istore (lv' := [(4, .int 0), (3, .int r_9), (2, .int r_8), (1, .int t1_c76), (0, .ref h)]) hx hb dX8_isLand_203 hl (by decide) rfl (fun ls hl => ?_)
                                    refine lv_iload hx hb dX8_isLand_205 (lv_at hl 0 rfl) ?_
                                    refine lv_if_ne (tgt := 212) hx hb dX8_isLand_207 (by decide) (fun c9 => absurd (by decide) c9) (fun _ => ?_)
                                    refine lv_iconst (v := 0) hx hb dX8_isLand_210 (by decide) ?_
                                    exact wr_z (v := 0) hx hb hr hlocks hS (v41_0, g1_c76, v41_1, g3_c76, g4_c76) (by exact ⟨Or.inr (⟨rfl, show (tpA (tbr tbf le.toInt) le.toInt fu.toInt pp.toInt).1.1 = 1 ∧ (tpA (tbr tbf le.toInt) le.toInt fu.toInt pp.toInt).1.2.1 = v41_0.toInt ∧ (tpA (tbr tbf le.toInt) le.toInt fu.toInt pp.toInt).1.2.2.1 = v41_1.toInt from tfa_1 (by rw [← q0_c76]; exact tpq_x (by omega) (by omega) (by omega) (by omega) (by omega) (by omega) (by omega) (by omega) (by omega))⟩), show FRM (1596) (1653) sf g4_c76 from hf_c76, show 0 ≤ (g1_c76 : Int32).toInt ∧ (g1_c76 : Int32).toInt ≤ 120 from by omega, show 0 ≤ (v41_1 : Int32).toInt ∧ (v41_1 : Int32).toInt ≤ 120 from by omega, ha_g4_c76⟩) (hP.sub [2, 0, 1] rfl) (hD.sub [2, 0, 1] (by decide) rfl) dX8_isLand_211 rfl
                                · have f_40 : ¬ (ur g4_c76).1 ≤ 0 := by
                                    have h8 := zi_nle c_40
                                    try rw [u_39] at h8
                                    exact h8
                                  refine lv_iconst (v := 2) hx hb dX8_isLand_182 (by decide) ?_
                                  refine lv_istore_n (lv' := [(1, .int 2), (3, .int r_9), (2, .int r_8), (0, .ref h)]) hx hb dX8_isLand_183 rfl hl (by decide) rfl (fun ls hl => ?_)
                                  refine lv_aload_n hx hb dX8_isLand_184 rfl (lv_at hl 3 rfl) ?_
                                  refine lv_iload_n hx hb dX8_isLand_185 rfl (lv_at hl 2 rfl) ?_
                                  have k_42 := (p_X8_isWalker l D cI cB cQ H.size h sl zs ln ir tk tb tr fz na su le g0_c76 g1_c76 g2_c76 tc g3_c76 r_8 g4_c76 tbf v0 ha_g4_c76 (by omega) (by omega) (by omega) (by omega) (by omega) (by omega) (by omega))
                                  refine wc_i (WC := [(h, .inr (7, [.ref sl, .int na, .ref zs, .ref ln, .ref ir, .ref tk, .int su, .int le, .ref tb, .int g0_c76, .int g1_c76, .int g2_c76, .ref tr, .int tc, .ref fz, .int g3_c76])), (sl, .inl (cI, 1653, .inl g4_c76)), (tb, .inl (cB, 120, .inl tbf))]) (WR := []) (va_runV (As := [.int r_8]) (rest := []) ⟨hx, hb, hml, hown, hts⟩ k_42 (cwV 1 hts gX8_isLand_X8_isWalker rfl rfl rfl (by decide +kernel) ⟨Nat.le_of_ble_eq_true rfl, Nat.le_of_ble_eq_true rfl⟩) (wp_V hP hK hD hN [1, 0, 2] (by decide) rfl (ci := 7) rfl rfl) rfl rfl hl.1 rfl (lv_room (Nat.le_of_ble_eq_true rfl)) dX8_isLand_186 ⟨Nat.le_of_ble_eq_true rfl, Nat.le_of_ble_eq_true rfl⟩) hP hD hS hA [1, 0, 2] [] rfl rfl (by decide) (by decide) (fun r_42 => pe5 (fun v42_0 v42_1 v42_2 v42_3 v42_4 H locs hw_42 hP hD hS => ?_))
                                  clear k_42
                                  have hP : va_P D kl [(h, .inr (7, [.ref sl, .int na, .ref zs, .ref ln, .ref ir, .ref tk, .int su, .int le, .ref tb, .int v42_0, .int v42_1, .int v42_2, .ref tr, .int tc, .ref fz, .int v42_3])), (sl, .inl (cI, 1653, .inl v42_4)), (tb, .inl (cB, 120, .inl tbf))] H := hP
                                  have hD : va_D A [(h, .inr (7, [.ref sl, .int na, .ref zs, .ref ln, .ref ir, .ref tk, .int su, .int le, .ref tb, .int v42_0, .int v42_1, .int v42_2, .ref tr, .int tc, .ref fz, .int v42_3])), (sl, .inl (cI, 1653, .inl v42_4)), (tb, .inl (cB, 120, .inl tbf))] := hD
                                  obtain ⟨c42_0, c42_1, c42_2, c42_3, c42_4, c42_5⟩ := hw_42
                                  have c42_1 : (g1_c76.toInt ≤ v42_1.toInt) := c42_1
                                  have c42_2 : FRM (1596) (1653) g4_c76 v42_4 := c42_2
                                  have c42_3 : 0 ≤ v42_1.toInt ∧ v42_1.toInt ≤ 120 := c42_3
                                  have c42_4 : 0 ≤ v42_2.toInt ∧ v42_2.toInt ≤ 120 := c42_4
                                  have c42_5 : SI v42_4 v0 := c42_5
                                  have hf_42 : FRM (1596) (1653) sf v42_4 := FRM.trans hf_c76 (FRM.sub c42_2 (by omega) (by omega))
                                  rcases c42_0 with ⟨e_42, f_42⟩ | ⟨e_42, f_42⟩
                                  · subst e_42
                                    have f_42 : ((((0, v42_0.toInt, v42_2.toInt, v42_1.toInt) : TPS), ur v42_4) : TPT) = tpW (tbr tbf le.toInt) ((0, g0_c76.toInt, g2_c76.toInt, g1_c76.toInt), ur g4_c76) ∧ g1_c76.toInt < v42_1.toInt ∧ (ur v42_4).1 = (ur g4_c76).1 ∧ (ur v42_4).2.1 = (ur g4_c76).2.1 := f_42
                                    refine lv_istore (lv' := [(4, .int 1), (1, .int 2), (3, .int r_9), (2, .int r_8), (0, .ref h)]) hx hb dX8_isLand_189 hl (by decide) rfl (fun ls hl => ?_)
                                    refine lv_goto (tgt := 205) hx hb dX8_isLand_191 (by decide) ?_
                                    refine lv_iload hx hb dX8_isLand_205 (lv_at hl 0 rfl) ?_
                                    refine lv_if_ne (tgt := 212) hx hb dX8_isLand_207 (by decide) (fun _ => ?_) (fun c9 => absurd c9 (by decide))
                                    refine lv_goto (tgt := 76) hx hb dX8_isLand_212 (by decide) ?_
                                    exact ih76 2 v42_0 v42_1 v42_2 v42_3 v42_4 _ _ _ (show 0 ≤ 2 ∧ 2 ≤ 2 from by omega) (show 0 ≤ v42_1.toInt ∧ v42_1.toInt ≤ 120 from by omega) (show 0 ≤ v42_2.toInt ∧ v42_2.toInt ≤ 120 from by omega) c42_5 (show 2 = 0 ∨ 1 ≤ (ur v42_4).1 from by omega) (show 0 ≤ (ur v42_4).1 from by omega) (show 0 ≤ (ur v42_4).2.1 ∧ (ur v42_4).2.1 ≤ 12 from by omega) (tpq_back q0_c76 (tpq_W (fun p hp => tbr_hi hp) (by omega) (by omega) (by omega) (by omega) (by omega)) f_42.1 (by first | omega | decide)) hf_42 (by omega) (hP.sub [1, 0, 2] rfl) (hD.sub [1, 0, 2] (by decide) rfl) hS (lv_sub hl [1, 4] rfl)
                                  · subst e_42
                                    have f_42 : tfa (tpW (tbr tbf le.toInt) ((0, g0_c76.toInt, g2_c76.toInt, g1_c76.toInt), ur g4_c76)).1 v42_0.toInt v42_2.toInt := f_42
                                    refine lv_istore (lv' := [(4, .int 0), (1, .int 2), (3, .int r_9), (2, .int r_8), (0, .ref h)]) hx hb dX8_isLand_189 hl (by decide) rfl (fun ls hl => ?_)
                                    refine lv_goto (tgt := 205) hx hb dX8_isLand_191 (by decide) ?_
                                    refine lv_iload hx hb dX8_isLand_205 (lv_at hl 0 rfl) ?_
                                    refine lv_if_ne (tgt := 212) hx hb dX8_isLand_207 (by decide) (fun c9 => absurd (by decide) c9) (fun _ => ?_)
                                    refine lv_iconst (v := 0) hx hb dX8_isLand_210 (by decide) ?_
                                    exact wr_z (v := 0) hx hb hr hlocks hS (v42_0, v42_1, v42_2, v42_3, v42_4) (by exact ⟨Or.inr (⟨rfl, show (tpA (tbr tbf le.toInt) le.toInt fu.toInt pp.toInt).1.1 = 1 ∧ (tpA (tbr tbf le.toInt) le.toInt fu.toInt pp.toInt).1.2.1 = v42_0.toInt ∧ (tpA (tbr tbf le.toInt) le.toInt fu.toInt pp.toInt).1.2.2.1 = v42_2.toInt from tfa_1 (tpq_fb q0_c76 (tpq_W (fun p hp => tbr_hi hp) (by omega) (by omega) (by omega) (by omega) (by omega)) f_42)⟩), show FRM (1596) (1653) sf v42_4 from hf_42, show 0 ≤ (v42_1 : Int32).toInt ∧ (v42_1 : Int32).toInt ≤ 120 from by omega, show 0 ≤ (v42_2 : Int32).toInt ∧ (v42_2 : Int32).toInt ≤ 120 from by omega, c42_5⟩) (hP.sub [0, 1, 2] rfl) (hD.sub [0, 1, 2] (by decide) rfl) dX8_isLand_211 rfl
                            · have f_36 : ¬ (ur g4_c76).1 ≤ 0 := by
                                have h8 := zi_nle c_36
                                try rw [u_35] at h8
                                exact h8
                              refine lv_iconst (v := 1) hx hb dX8_isLand_156 (by decide) ?_
                              refine lv_istore_n (lv' := [(1, .int 1), (3, .int r_9), (2, .int r_8), (0, .ref h)]) hx hb dX8_isLand_157 rfl hl (by decide) rfl (fun ls hl => ?_)
                              refine lv_aload_n hx hb dX8_isLand_158 rfl (lv_at hl 3 rfl) ?_
                              have k_43 := (p_X8_isRoad l D cI cB cQ H.size h sl zs ln ir tk tb tr fz na su le g0_c76 g1_c76 g2_c76 tc g3_c76 g4_c76 tbf v0 ha_g4_c76 (by omega) (by omega) (by omega) (by omega) (by omega) (by omega) (by omega))
                              refine wc_i (WC := [(h, .inr (7, [.ref sl, .int na, .ref zs, .ref ln, .ref ir, .ref tk, .int su, .int le, .ref tb, .int g0_c76, .int g1_c76, .int g2_c76, .ref tr, .int tc, .ref fz, .int g3_c76])), (sl, .inl (cI, 1653, .inl g4_c76)), (tb, .inl (cB, 120, .inl tbf))]) (WR := []) (va_runV (As := []) (rest := []) ⟨hx, hb, hml, hown, hts⟩ k_43 (cwV 0 hts gX8_isLand_X8_isRoad rfl rfl rfl (by decide +kernel) ⟨Nat.le_of_ble_eq_true rfl, Nat.le_of_ble_eq_true rfl⟩) (wp_V hP hK hD hN [1, 0, 2] (by decide) rfl (ci := 7) rfl rfl) rfl rfl hl.1 rfl (lv_room (Nat.le_of_ble_eq_true rfl)) dX8_isLand_159 ⟨Nat.le_of_ble_eq_true rfl, Nat.le_of_ble_eq_true rfl⟩) hP hD hS hA [1, 0, 2] [] rfl rfl (by decide) (by decide) (fun r_43 => pe5 (fun v43_0 v43_1 v43_2 v43_3 v43_4 H locs hw_43 hP hD hS => ?_))
                              clear k_43
                              have hP : va_P D kl [(h, .inr (7, [.ref sl, .int na, .ref zs, .ref ln, .ref ir, .ref tk, .int su, .int le, .ref tb, .int v43_0, .int v43_1, .int v43_2, .ref tr, .int tc, .ref fz, .int v43_3])), (sl, .inl (cI, 1653, .inl v43_4)), (tb, .inl (cB, 120, .inl tbf))] H := hP
                              have hD : va_D A [(h, .inr (7, [.ref sl, .int na, .ref zs, .ref ln, .ref ir, .ref tk, .int su, .int le, .ref tb, .int v43_0, .int v43_1, .int v43_2, .ref tr, .int tc, .ref fz, .int v43_3])), (sl, .inl (cI, 1653, .inl v43_4)), (tb, .inl (cB, 120, .inl tbf))] := hD
                              obtain ⟨c43_0, c43_1, c43_2, c43_3, c43_4, c43_5⟩ := hw_43
                              have c43_1 : (g1_c76.toInt ≤ v43_1.toInt) := c43_1
                              have c43_2 : FRM (1596) (1653) g4_c76 v43_4 := c43_2
                              have c43_3 : 0 ≤ v43_1.toInt ∧ v43_1.toInt ≤ 120 := c43_3
                              have c43_4 : 0 ≤ v43_2.toInt ∧ v43_2.toInt ≤ 120 := c43_4
                              have c43_5 : SI v43_4 v0 := c43_5
                              have hf_43 : FRM (1596) (1653) sf v43_4 := FRM.trans hf_c76 (FRM.sub c43_2 (by omega) (by omega))
                              rcases c43_0 with ⟨e_43, f_43⟩ | ⟨e_43, f_43⟩
                              · subst e_43
                                have f_43 : ((((0, v43_0.toInt, v43_2.toInt, v43_1.toInt) : TPS), ur v43_4) : TPT) = tpR (tbr tbf le.toInt) ((0, g0_c76.toInt, g2_c76.toInt, g1_c76.toInt), ur g4_c76) ∧ g1_c76.toInt < v43_1.toInt ∧ (ur v43_4).1 = (ur g4_c76).1 ∧ (ur v43_4).2.1 = (ur g4_c76).2.1 + 1 ∧ (ur g4_c76).2.1 ≤ 11 := f_43
                                refine lv_istore (lv' := [(4, .int 1), (1, .int 1), (3, .int r_9), (2, .int r_8), (0, .ref h)]) hx hb dX8_isLand_162 hl (by decide) rfl (fun ls hl => ?_)
                                refine lv_goto (tgt := 205) hx hb dX8_isLand_164 (by decide) ?_
                                refine lv_iload hx hb dX8_isLand_205 (lv_at hl 0 rfl) ?_
                                refine lv_if_ne (tgt := 212) hx hb dX8_isLand_207 (by decide) (fun _ => ?_) (fun c9 => absurd c9 (by decide))
                                refine lv_goto (tgt := 76) hx hb dX8_isLand_212 (by decide) ?_
                                exact ih76 1 v43_0 v43_1 v43_2 v43_3 v43_4 _ _ _ (show 0 ≤ 1 ∧ 1 ≤ 2 from by omega) (show 0 ≤ v43_1.toInt ∧ v43_1.toInt ≤ 120 from by omega) (show 0 ≤ v43_2.toInt ∧ v43_2.toInt ≤ 120 from by omega) c43_5 (show 1 = 0 ∨ 1 ≤ (ur v43_4).1 from by omega) (show 0 ≤ (ur v43_4).1 from by omega) (show 0 ≤ (ur v43_4).2.1 ∧ (ur v43_4).2.1 ≤ 12 from by omega) (tpq_back q0_c76 (tpq_R (fun p hp => tbr_hi hp) (by omega) (by omega) (by omega) (by omega) (by omega)) f_43.1 (by first | omega | decide)) hf_43 (by omega) (hP.sub [1, 0, 2] rfl) (hD.sub [1, 0, 2] (by decide) rfl) hS (lv_sub hl [1, 4] rfl)
                              · subst e_43
                                have f_43 : tfa (tpR (tbr tbf le.toInt) ((0, g0_c76.toInt, g2_c76.toInt, g1_c76.toInt), ur g4_c76)).1 v43_0.toInt v43_2.toInt := f_43
                                refine lv_istore (lv' := [(4, .int 0), (1, .int 1), (3, .int r_9), (2, .int r_8), (0, .ref h)]) hx hb dX8_isLand_162 hl (by decide) rfl (fun ls hl => ?_)
                                refine lv_goto (tgt := 205) hx hb dX8_isLand_164 (by decide) ?_
                                refine lv_iload hx hb dX8_isLand_205 (lv_at hl 0 rfl) ?_
                                refine lv_if_ne (tgt := 212) hx hb dX8_isLand_207 (by decide) (fun c9 => absurd (by decide) c9) (fun _ => ?_)
                                refine lv_iconst (v := 0) hx hb dX8_isLand_210 (by decide) ?_
                                exact wr_z (v := 0) hx hb hr hlocks hS (v43_0, v43_1, v43_2, v43_3, v43_4) (by exact ⟨Or.inr (⟨rfl, show (tpA (tbr tbf le.toInt) le.toInt fu.toInt pp.toInt).1.1 = 1 ∧ (tpA (tbr tbf le.toInt) le.toInt fu.toInt pp.toInt).1.2.1 = v43_0.toInt ∧ (tpA (tbr tbf le.toInt) le.toInt fu.toInt pp.toInt).1.2.2.1 = v43_2.toInt from tfa_1 (tpq_fb q0_c76 (tpq_R (fun p hp => tbr_hi hp) (by omega) (by omega) (by omega) (by omega) (by omega)) f_43)⟩), show FRM (1596) (1653) sf v43_4 from hf_43, show 0 ≤ (v43_1 : Int32).toInt ∧ (v43_1 : Int32).toInt ≤ 120 from by omega, show 0 ≤ (v43_2 : Int32).toInt ∧ (v43_2 : Int32).toInt ≤ 120 from by omega, c43_5⟩) (hP.sub [0, 1, 2] rfl) (hD.sub [0, 1, 2] (by decide) rfl) dX8_isLand_211 rfl
                      · have f_20 : r_8.toInt = 99 := zi_eq c_20
                        refine lv_iload_n hx hb dX8_isLand_120 rfl (lv_at hl 2 rfl) ?_
                        refine lv_if_ne (tgt := 134) hx hb dX8_isLand_121 (by decide) (fun c_44 => ?_) (fun c_44 => ?_)
                        · have f_44 : ¬ t1_c76.toInt = 0 := zi_ne c_44
                          refine lv_iload_n hx hb dX8_isLand_134 rfl (lv_at hl 1 rfl) ?_
                          refine lv_bipush (v := 114) hx hb dX8_isLand_135 (by decide) ?_
                          refine lv_icmp_ne (tgt := 167) hx hb dX8_isLand_137 (by decide) (fun c_45 => ?_) (fun c_45 => ?_)
                          · have f_45 : ¬ r_8.toInt = 114 := zi_ne c_45
                            refine lv_iload_n hx hb dX8_isLand_167 rfl (lv_at hl 0 rfl) ?_
                            refine lv_if_le (tgt := 194) hx hb dX8_isLand_168 (by decide) (fun c_46 => ?_) (fun c_46 => ?_)
                            · have f_46 : r_9.toInt ≤ 0 := zi_le c_46
                              refine lv_aload_n hx hb dX8_isLand_194 rfl (lv_at hl 3 rfl) ?_
                              refine lv_iconst (v := 1) hx hb dX8_isLand_195 (by decide) ?_
                              refine lv_aload_n hx hb dX8_isLand_196 rfl (lv_at hl 3 rfl) ?_
                              refine va_get (D := D) (ci := 7) (v := .int g1_c76) (C := RX8) (T := TX8) (N := 16) hx hb hts (fun _ h => List.mem_cons_of_mem _ (List.mem_append_right _ h)) hown hK hP 1 rfl rfl 10 (by decide) (hts (.fieldLink RX8 62 "WinterWalkModel" "at" "I") (List.mem_of_getElem? (i := 1) rfl)) (fun _ h9 => h9) rfl dX8_isLand_197 ?_
                              have k_47 := (p_X8_fails l D cI cB cQ H.size h sl zs ln ir tk tb tr fz na su le g0_c76 g1_c76 g2_c76 tc g3_c76 1 g1_c76 (by omega) (by omega))
                              refine wc_i (WC := [(h, .inr (7, [.ref sl, .int na, .ref zs, .ref ln, .ref ir, .ref tk, .int su, .int le, .ref tb, .int g0_c76, .int g1_c76, .int g2_c76, .ref tr, .int tc, .ref fz, .int g3_c76]))]) (WR := [(sl, .inl (cI, 1653, .inl g4_c76)), (tb, .inl (cB, 120, .inl tbf))]) (va_runV (As := [.int 1, .int g1_c76]) (rest := []) ⟨hx, hb, hml, hown, hts⟩ k_47 (cwV 2 hts gX8_isLand_X8_fails rfl rfl rfl (by decide +kernel) ⟨Nat.le_of_ble_eq_true rfl, Nat.le_of_ble_eq_true rfl⟩) (wp_V hP hK hD hN [1] (by decide) rfl (ci := 7) rfl rfl) rfl rfl hl.1 rfl (lv_room (Nat.le_of_ble_eq_true rfl)) dX8_isLand_200 ⟨Nat.le_of_ble_eq_true rfl, Nat.le_of_ble_eq_true rfl⟩) hP hD hS hA [1] [0, 2] rfl rfl (by decide) (by decide) (fun r_47 => pe2 (fun v47_0 v47_1 H locs hw_47 hP hD hS => ?_))
                              clear k_47
                              have hP : va_P D kl [(sl, .inl (cI, 1653, .inl g4_c76)), (tb, .inl (cB, 120, .inl tbf)), (h, .inr (7, [.ref sl, .int na, .ref zs, .ref ln, .ref ir, .ref tk, .int su, .int le, .ref tb, .int v47_0, .int g1_c76, .int v47_1, .ref tr, .int tc, .ref fz, .int g3_c76]))] H := hP
                              have hD : va_D A [(sl, .inl (cI, 1653, .inl g4_c76)), (tb, .inl (cB, 120, .inl tbf)), (h, .inr (7, [.ref sl, .int na, .ref zs, .ref ln, .ref ir, .ref tk, .int su, .int le, .ref tb, .int v47_0, .int g1_c76, .int v47_1, .ref tr, .int tc, .ref fz, .int g3_c76]))] := hD
                              obtain ⟨c47_0, c47_1, c47_2⟩ := hw_47
                              have c47_1 : v47_0.toInt = (1 : Int) ∧ v47_1.toInt = g1_c76.toInt := c47_1
                              have c47_2 : 0 ≤ v47_1.toInt ∧ v47_1.toInt ≤ 120 := c47_2
                              have e_47 := c47_0
                              · subst e_47
                                refine lv_istore (lv' := [(4, .int 0), (3, .int r_9), (2, .int r_8), (1, .int t1_c76), (0, .ref h)]) hx hb dX8_isLand_203 hl (by decide) rfl (fun ls hl => ?_)
                                refine lv_iload hx hb dX8_isLand_205 (lv_at hl 0 rfl) ?_
                                refine lv_if_ne (tgt := 212) hx hb dX8_isLand_207 (by decide) (fun c9 => absurd (by decide) c9) (fun _ => ?_)
                                refine lv_iconst (v := 0) hx hb dX8_isLand_210 (by decide) ?_
                                exact wr_z (v := 0) hx hb hr hlocks hS (v47_0, g1_c76, v47_1, g3_c76, g4_c76) (by exact ⟨Or.inr (⟨rfl, show (tpA (tbr tbf le.toInt) le.toInt fu.toInt pp.toInt).1.1 = 1 ∧ (tpA (tbr tbf le.toInt) le.toInt fu.toInt pp.toInt).1.2.1 = v47_0.toInt ∧ (tpA (tbr tbf le.toInt) le.toInt fu.toInt pp.toInt).1.2.2.1 = v47_1.toInt from tfa_1 (by rw [← q0_c76]; exact tpq_x (by omega) (by omega) (by omega) (by omega) (by omega) (by omega) (by omega) (by omega) (by omega))⟩), show FRM (1596) (1653) sf g4_c76 from hf_c76, show 0 ≤ (g1_c76 : Int32).toInt ∧ (g1_c76 : Int32).toInt ≤ 120 from by omega, show 0 ≤ (v47_1 : Int32).toInt ∧ (v47_1 : Int32).toInt ≤ 120 from by omega, ha_g4_c76⟩) (hP.sub [2, 0, 1] rfl) (hD.sub [2, 0, 1] (by decide) rfl) dX8_isLand_211 rfl
                            · have f_46 : ¬ r_9.toInt ≤ 0 := zi_nle c_46
                              refine lv_aload_n hx hb dX8_isLand_171 rfl (lv_at hl 3 rfl) ?_
                              refine va_get (D := D) (ci := 7) (v := .ref sl) (C := RX8) (T := TX8) (N := 16) hx hb hts (fun _ h => List.mem_cons_of_mem _ (List.mem_append_right _ h)) hown hK hP 1 rfl rfl 0 (by decide) (hts (.fieldLink RX8 7 "WinterWalkModel" "slot" "[I") (List.mem_of_getElem? (i := 2) rfl)) (fun _ h9 => h9) rfl dX8_isLand_172 ?_
                              refine lv_sipush (v := 1597) hx hb dX8_isLand_175 (by decide) ?_
                              refine va_iald hx hb hK hP 0 0 rfl rfl (zi_in (by decide) (by decide)) dX8_isLand_178 ?_
                              refine lv_topi (fun x_48 ex_48 => ?_)
                              have f_48 : 0 ≤ x_48.toInt ∧ x_48.toInt ≤ 8 := by rw [ex_48]; exact si_v ha_g4_c76 (s := 28) (by decide) (by omega)
                              have u_48 : x_48.toInt = (ur g4_c76).1 := by rw [ex_48]; exact ux_v
                              refine lv_if_le (tgt := 194) hx hb dX8_isLand_179 (by decide) (fun c_49 => ?_) (fun c_49 => ?_)
                              · have f_49 : (ur g4_c76).1 ≤ 0 := by
                                  have h8 := zi_le c_49
                                  try rw [u_48] at h8
                                  exact h8
                                refine lv_aload_n hx hb dX8_isLand_194 rfl (lv_at hl 3 rfl) ?_
                                refine lv_iconst (v := 1) hx hb dX8_isLand_195 (by decide) ?_
                                refine lv_aload_n hx hb dX8_isLand_196 rfl (lv_at hl 3 rfl) ?_
                                refine va_get (D := D) (ci := 7) (v := .int g1_c76) (C := RX8) (T := TX8) (N := 16) hx hb hts (fun _ h => List.mem_cons_of_mem _ (List.mem_append_right _ h)) hown hK hP 1 rfl rfl 10 (by decide) (hts (.fieldLink RX8 62 "WinterWalkModel" "at" "I") (List.mem_of_getElem? (i := 1) rfl)) (fun _ h9 => h9) rfl dX8_isLand_197 ?_
                                have k_50 := (p_X8_fails l D cI cB cQ H.size h sl zs ln ir tk tb tr fz na su le g0_c76 g1_c76 g2_c76 tc g3_c76 1 g1_c76 (by omega) (by omega))
                                refine wc_i (WC := [(h, .inr (7, [.ref sl, .int na, .ref zs, .ref ln, .ref ir, .ref tk, .int su, .int le, .ref tb, .int g0_c76, .int g1_c76, .int g2_c76, .ref tr, .int tc, .ref fz, .int g3_c76]))]) (WR := [(sl, .inl (cI, 1653, .inl g4_c76)), (tb, .inl (cB, 120, .inl tbf))]) (va_runV (As := [.int 1, .int g1_c76]) (rest := []) ⟨hx, hb, hml, hown, hts⟩ k_50 (cwV 2 hts gX8_isLand_X8_fails rfl rfl rfl (by decide +kernel) ⟨Nat.le_of_ble_eq_true rfl, Nat.le_of_ble_eq_true rfl⟩) (wp_V hP hK hD hN [1] (by decide) rfl (ci := 7) rfl rfl) rfl rfl hl.1 rfl (lv_room (Nat.le_of_ble_eq_true rfl)) dX8_isLand_200 ⟨Nat.le_of_ble_eq_true rfl, Nat.le_of_ble_eq_true rfl⟩) hP hD hS hA [1] [0, 2] rfl rfl (by decide) (by decide) (fun r_50 => pe2 (fun v50_0 v50_1 H locs hw_50 hP hD hS => ?_))
                                clear k_50
                                have hP : va_P D kl [(sl, .inl (cI, 1653, .inl g4_c76)), (tb, .inl (cB, 120, .inl tbf)), (h, .inr (7, [.ref sl, .int na, .ref zs, .ref ln, .ref ir, .ref tk, .int su, .int le, .ref tb, .int v50_0, .int g1_c76, .int v50_1, .ref tr, .int tc, .ref fz, .int g3_c76]))] H := hP
                                have hD : va_D A [(sl, .inl (cI, 1653, .inl g4_c76)), (tb, .inl (cB, 120, .inl tbf)), (h, .inr (7, [.ref sl, .int na, .ref zs, .ref ln, .ref ir, .ref tk, .int su, .int le, .ref tb, .int v50_0, .int g1_c76, .int v50_1, .ref tr, .int tc, .ref fz, .int g3_c76]))] := hD
                                obtain ⟨c50_0, c50_1, c50_2⟩ := hw_50
                                have c50_1 : v50_0.toInt = (1 : Int) ∧ v50_1.toInt = g1_c76.toInt := c50_1
                                have c50_2 : 0 ≤ v50_1.toInt ∧ v50_1.toInt ≤ 120 := c50_2
                                have e_50 := c50_0
                                · subst e_50
                                  refine lv_istore (lv' := [(4, .int 0), (3, .int r_9), (2, .int r_8), (1, .int t1_c76), (0, .ref h)]) hx hb dX8_isLand_203 hl (by decide) rfl (fun ls hl => ?_)
                                  refine lv_iload hx hb dX8_isLand_205 (lv_at hl 0 rfl) ?_
                                  refine lv_if_ne (tgt := 212) hx hb dX8_isLand_207 (by decide) (fun c9 => absurd (by decide) c9) (fun _ => ?_)
                                  refine lv_iconst (v := 0) hx hb dX8_isLand_210 (by decide) ?_
                                  exact wr_z (v := 0) hx hb hr hlocks hS (v50_0, g1_c76, v50_1, g3_c76, g4_c76) (by exact ⟨Or.inr (⟨rfl, show (tpA (tbr tbf le.toInt) le.toInt fu.toInt pp.toInt).1.1 = 1 ∧ (tpA (tbr tbf le.toInt) le.toInt fu.toInt pp.toInt).1.2.1 = v50_0.toInt ∧ (tpA (tbr tbf le.toInt) le.toInt fu.toInt pp.toInt).1.2.2.1 = v50_1.toInt from tfa_1 (by rw [← q0_c76]; exact tpq_x (by omega) (by omega) (by omega) (by omega) (by omega) (by omega) (by omega) (by omega) (by omega))⟩), show FRM (1596) (1653) sf g4_c76 from hf_c76, show 0 ≤ (g1_c76 : Int32).toInt ∧ (g1_c76 : Int32).toInt ≤ 120 from by omega, show 0 ≤ (v50_1 : Int32).toInt ∧ (v50_1 : Int32).toInt ≤ 120 from by omega, ha_g4_c76⟩) (hP.sub [2, 0, 1] rfl) (hD.sub [2, 0, 1] (by decide) rfl) dX8_isLand_211 rfl
                              · have f_49 : ¬ (ur g4_c76).1 ≤ 0 := by
                                  have h8 := zi_nle c_49
                                  try rw [u_48] at h8
                                  exact h8
                                refine lv_iconst (v := 2) hx hb dX8_isLand_182 (by decide) ?_
                                refine lv_istore_n (lv' := [(1, .int 2), (3, .int r_9), (2, .int r_8), (0, .ref h)]) hx hb dX8_isLand_183 rfl hl (by decide) rfl (fun ls hl => ?_)
                                refine lv_aload_n hx hb dX8_isLand_184 rfl (lv_at hl 3 rfl) ?_
                                refine lv_iload_n hx hb dX8_isLand_185 rfl (lv_at hl 2 rfl) ?_
                                have k_51 := (p_X8_isWalker l D cI cB cQ H.size h sl zs ln ir tk tb tr fz na su le g0_c76 g1_c76 g2_c76 tc g3_c76 r_8 g4_c76 tbf v0 ha_g4_c76 (by omega) (by omega) (by omega) (by omega) (by omega) (by omega) (by omega))
                                refine wc_i (WC := [(h, .inr (7, [.ref sl, .int na, .ref zs, .ref ln, .ref ir, .ref tk, .int su, .int le, .ref tb, .int g0_c76, .int g1_c76, .int g2_c76, .ref tr, .int tc, .ref fz, .int g3_c76])), (sl, .inl (cI, 1653, .inl g4_c76)), (tb, .inl (cB, 120, .inl tbf))]) (WR := []) (va_runV (As := [.int r_8]) (rest := []) ⟨hx, hb, hml, hown, hts⟩ k_51 (cwV 1 hts gX8_isLand_X8_isWalker rfl rfl rfl (by decide +kernel) ⟨Nat.le_of_ble_eq_true rfl, Nat.le_of_ble_eq_true rfl⟩) (wp_V hP hK hD hN [1, 0, 2] (by decide) rfl (ci := 7) rfl rfl) rfl rfl hl.1 rfl (lv_room (Nat.le_of_ble_eq_true rfl)) dX8_isLand_186 ⟨Nat.le_of_ble_eq_true rfl, Nat.le_of_ble_eq_true rfl⟩) hP hD hS hA [1, 0, 2] [] rfl rfl (by decide) (by decide) (fun r_51 => pe5 (fun v51_0 v51_1 v51_2 v51_3 v51_4 H locs hw_51 hP hD hS => ?_))
                                clear k_51
                                have hP : va_P D kl [(h, .inr (7, [.ref sl, .int na, .ref zs, .ref ln, .ref ir, .ref tk, .int su, .int le, .ref tb, .int v51_0, .int v51_1, .int v51_2, .ref tr, .int tc, .ref fz, .int v51_3])), (sl, .inl (cI, 1653, .inl v51_4)), (tb, .inl (cB, 120, .inl tbf))] H := hP
                                have hD : va_D A [(h, .inr (7, [.ref sl, .int na, .ref zs, .ref ln, .ref ir, .ref tk, .int su, .int le, .ref tb, .int v51_0, .int v51_1, .int v51_2, .ref tr, .int tc, .ref fz, .int v51_3])), (sl, .inl (cI, 1653, .inl v51_4)), (tb, .inl (cB, 120, .inl tbf))] := hD
                                obtain ⟨c51_0, c51_1, c51_2, c51_3, c51_4, c51_5⟩ := hw_51
                                have c51_1 : (g1_c76.toInt ≤ v51_1.toInt) := c51_1
                                have c51_2 : FRM (1596) (1653) g4_c76 v51_4 := c51_2
                                have c51_3 : 0 ≤ v51_1.toInt ∧ v51_1.toInt ≤ 120 := c51_3
                                have c51_4 : 0 ≤ v51_2.toInt ∧ v51_2.toInt ≤ 120 := c51_4
                                have c51_5 : SI v51_4 v0 := c51_5
                                have hf_51 : FRM (1596) (1653) sf v51_4 := FRM.trans hf_c76 (FRM.sub c51_2 (by omega) (by omega))
                                rcases c51_0 with ⟨e_51, f_51⟩ | ⟨e_51, f_51⟩
                                · subst e_51
                                  have f_51 : ((((0, v51_0.toInt, v51_2.toInt, v51_1.toInt) : TPS), ur v51_4) : TPT) = tpW (tbr tbf le.toInt) ((0, g0_c76.toInt, g2_c76.toInt, g1_c76.toInt), ur g4_c76) ∧ g1_c76.toInt < v51_1.toInt ∧ (ur v51_4).1 = (ur g4_c76).1 ∧ (ur v51_4).2.1 = (ur g4_c76).2.1 := f_51
                                  refine lv_istore (lv' := [(4, .int 1), (1, .int 2), (3, .int r_9), (2, .int r_8), (0, .ref h)]) hx hb dX8_isLand_189 hl (by decide) rfl (fun ls hl => ?_)
                                  refine lv_goto (tgt := 205) hx hb dX8_isLand_191 (by decide) ?_
                                  refine lv_iload hx hb dX8_isLand_205 (lv_at hl 0 rfl) ?_
                                  refine lv_if_ne (tgt := 212) hx hb dX8_isLand_207 (by decide) (fun _ => ?_) (fun c9 => absurd c9 (by decide))
                                  refine lv_goto (tgt := 76) hx hb dX8_isLand_212 (by decide) ?_
                                  exact ih76 2 v51_0 v51_1 v51_2 v51_3 v51_4 _ _ _ (show 0 ≤ 2 ∧ 2 ≤ 2 from by omega) (show 0 ≤ v51_1.toInt ∧ v51_1.toInt ≤ 120 from by omega) (show 0 ≤ v51_2.toInt ∧ v51_2.toInt ≤ 120 from by omega) c51_5 (show 2 = 0 ∨ 1 ≤ (ur v51_4).1 from by omega) (show 0 ≤ (ur v51_4).1 from by omega) (show 0 ≤ (ur v51_4).2.1 ∧ (ur v51_4).2.1 ≤ 12 from by omega) (tpq_back q0_c76 (tpq_W (fun p hp => tbr_hi hp) (by omega) (by omega) (by omega) (by omega) (by omega)) f_51.1 (by first | omega | decide)) hf_51 (by omega) (hP.sub [1, 0, 2] rfl) (hD.sub [1, 0, 2] (by decide) rfl) hS (lv_sub hl [1, 4] rfl)
                                · subst e_51
                                  have f_51 : tfa (tpW (tbr tbf le.toInt) ((0, g0_c76.toInt, g2_c76.toInt, g1_c76.toInt), ur g4_c76)).1 v51_0.toInt v51_2.toInt := f_51
                                  refine lv_istore (lv' := [(4, .int 0), (1, .int 2), (3, .int r_9), (2, .int r_8), (0, .ref h)]) hx hb dX8_isLand_189 hl (by decide) rfl (fun ls hl => ?_)
                                  refine lv_goto (tgt := 205) hx hb dX8_isLand_191 (by decide) ?_
                                  refine lv_iload hx hb dX8_isLand_205 (lv_at hl 0 rfl) ?_
                                  refine lv_if_ne (tgt := 212) hx hb dX8_isLand_207 (by decide) (fun c9 => absurd (by decide) c9) (fun _ => ?_)
                                  refine lv_iconst (v := 0) hx hb dX8_isLand_210 (by decide) ?_
                                  exact wr_z (v := 0) hx hb hr hlocks hS (v51_0, v51_1, v51_2, v51_3, v51_4) (by exact ⟨Or.inr (⟨rfl, show (tpA (tbr tbf le.toInt) le.toInt fu.toInt pp.toInt).1.1 = 1 ∧ (tpA (tbr tbf le.toInt) le.toInt fu.toInt pp.toInt).1.2.1 = v51_0.toInt ∧ (tpA (tbr tbf le.toInt) le.toInt fu.toInt pp.toInt).1.2.2.1 = v51_2.toInt from tfa_1 (tpq_fb q0_c76 (tpq_W (fun p hp => tbr_hi hp) (by omega) (by omega) (by omega) (by omega) (by omega)) f_51)⟩), show FRM (1596) (1653) sf v51_4 from hf_51, show 0 ≤ (v51_1 : Int32).toInt ∧ (v51_1 : Int32).toInt ≤ 120 from by omega, show 0 ≤ (v51_2 : Int32).toInt ∧ (v51_2 : Int32).toInt ≤ 120 from by omega, c51_5⟩) (hP.sub [0, 1, 2] rfl) (hD.sub [0, 1, 2] (by decide) rfl) dX8_isLand_211 rfl
                          · have f_45 : r_8.toInt = 114 := zi_eq c_45
                            exfalso; omega
                        · have f_44 : t1_c76.toInt = 0 := zi_eq c_44
                          refine lv_aload_n hx hb dX8_isLand_124 rfl (lv_at hl 3 rfl) ?_
                          refine lv_iload_n hx hb dX8_isLand_125 rfl (lv_at hl 1 rfl) ?_
                          have k_52 := (p_X8_isVillage l D cI cB cQ H.size h sl zs ln ir tk tb tr fz na su le g0_c76 g1_c76 g2_c76 tc g3_c76 r_8 g4_c76 tbf v0 ha_g4_c76 (by omega) (by omega) (by omega) (by omega) (by omega) (by omega))
                          refine wc_i (WC := [(h, .inr (7, [.ref sl, .int na, .ref zs, .ref ln, .ref ir, .ref tk, .int su, .int le, .ref tb, .int g0_c76, .int g1_c76, .int g2_c76, .ref tr, .int tc, .ref fz, .int g3_c76])), (sl, .inl (cI, 1653, .inl g4_c76)), (tb, .inl (cB, 120, .inl tbf))]) (WR := []) (va_runV (As := [.int r_8]) (rest := []) ⟨hx, hb, hml, hown, hts⟩ k_52 (cwV 1 hts gX8_isLand_X8_isVillage rfl rfl rfl (by decide +kernel) ⟨Nat.le_of_ble_eq_true rfl, Nat.le_of_ble_eq_true rfl⟩) (wp_V hP hK hD hN [1, 0, 2] (by decide) rfl (ci := 7) rfl rfl) rfl rfl hl.1 rfl (lv_room (Nat.le_of_ble_eq_true rfl)) dX8_isLand_126 ⟨Nat.le_of_ble_eq_true rfl, Nat.le_of_ble_eq_true rfl⟩) hP hD hS hA [1, 0, 2] [] rfl rfl (by decide) (by decide) (fun r_52 => pe5 (fun v52_0 v52_1 v52_2 v52_3 v52_4 H locs hw_52 hP hD hS => ?_))
                          clear k_52
                          have hP : va_P D kl [(h, .inr (7, [.ref sl, .int na, .ref zs, .ref ln, .ref ir, .ref tk, .int su, .int le, .ref tb, .int v52_0, .int v52_1, .int v52_2, .ref tr, .int tc, .ref fz, .int v52_3])), (sl, .inl (cI, 1653, .inl v52_4)), (tb, .inl (cB, 120, .inl tbf))] H := hP
                          have hD : va_D A [(h, .inr (7, [.ref sl, .int na, .ref zs, .ref ln, .ref ir, .ref tk, .int su, .int le, .ref tb, .int v52_0, .int v52_1, .int v52_2, .ref tr, .int tc, .ref fz, .int v52_3])), (sl, .inl (cI, 1653, .inl v52_4)), (tb, .inl (cB, 120, .inl tbf))] := hD
                          obtain ⟨c52_0, c52_1, c52_2, c52_3, c52_4, c52_5⟩ := hw_52
                          have c52_1 : (g1_c76.toInt ≤ v52_1.toInt) := c52_1
                          have c52_2 : FRM (1596) (1653) g4_c76 v52_4 := c52_2
                          have c52_3 : 0 ≤ v52_1.toInt ∧ v52_1.toInt ≤ 120 := c52_3
                          have c52_4 : 0 ≤ v52_2.toInt ∧ v52_2.toInt ≤ 120 := c52_4
                          have c52_5 : SI v52_4 v0 := c52_5
                          have hf_52 : FRM (1596) (1653) sf v52_4 := FRM.trans hf_c76 (FRM.sub c52_2 (by omega) (by omega))
                          rcases c52_0 with ⟨e_52, f_52⟩ | ⟨e_52, f_52⟩
                          · subst e_52
                            have f_52 : ((((0, v52_0.toInt, v52_2.toInt, v52_1.toInt) : TPS), ur v52_4) : TPT) = tpV (tbr tbf le.toInt) ((0, g0_c76.toInt, g2_c76.toInt, g1_c76.toInt), ur g4_c76) ∧ g1_c76.toInt < v52_1.toInt ∧ (ur v52_4).1 = (ur g4_c76).1 + 1 ∧ (ur v52_4).2.1 = (ur g4_c76).2.1 := f_52
                            refine lv_istore (lv' := [(4, .int 1), (3, .int r_9), (2, .int r_8), (1, .int t1_c76), (0, .ref h)]) hx hb dX8_isLand_129 hl (by decide) rfl (fun ls hl => ?_)
                            refine lv_goto (tgt := 205) hx hb dX8_isLand_131 (by decide) ?_
                            refine lv_iload hx hb dX8_isLand_205 (lv_at hl 0 rfl) ?_
                            refine lv_if_ne (tgt := 212) hx hb dX8_isLand_207 (by decide) (fun _ => ?_) (fun c9 => absurd c9 (by decide))
                            refine lv_goto (tgt := 76) hx hb dX8_isLand_212 (by decide) ?_
                            exact ih76 t1_c76 v52_0 v52_1 v52_2 v52_3 v52_4 _ _ _ (show 0 ≤ t1_c76.toInt ∧ t1_c76.toInt ≤ 2 from by omega) (show 0 ≤ v52_1.toInt ∧ v52_1.toInt ≤ 120 from by omega) (show 0 ≤ v52_2.toInt ∧ v52_2.toInt ≤ 120 from by omega) c52_5 (show t1_c76.toInt = 0 ∨ 1 ≤ (ur v52_4).1 from by omega) (show 0 ≤ (ur v52_4).1 from by omega) (show 0 ≤ (ur v52_4).2.1 ∧ (ur v52_4).2.1 ≤ 12 from by omega) (tpq_back q0_c76 (tpq_V (fun p hp => tbr_hi hp) (by omega) (by omega) (by omega) (by omega) (by omega)) f_52.1 (by first | omega | decide)) hf_52 (by omega) (hP.sub [1, 0, 2] rfl) (hD.sub [1, 0, 2] (by decide) rfl) hS (lv_sub hl [3, 4] rfl)
                          · subst e_52
                            have f_52 : tfa (tpV (tbr tbf le.toInt) ((0, g0_c76.toInt, g2_c76.toInt, g1_c76.toInt), ur g4_c76)).1 v52_0.toInt v52_2.toInt := f_52
                            refine lv_istore (lv' := [(4, .int 0), (3, .int r_9), (2, .int r_8), (1, .int t1_c76), (0, .ref h)]) hx hb dX8_isLand_129 hl (by decide) rfl (fun ls hl => ?_)
                            refine lv_goto (tgt := 205) hx hb dX8_isLand_131 (by decide) ?_
                            refine lv_iload hx hb dX8_isLand_205 (lv_at hl 0 rfl) ?_
                            refine lv_if_ne (tgt := 212) hx hb dX8_isLand_207 (by decide) (fun c9 => absurd (by decide) c9) (fun _ => ?_)
                            refine lv_iconst (v := 0) hx hb dX8_isLand_210 (by decide) ?_
                            exact wr_z (v := 0) hx hb hr hlocks hS (v52_0, v52_1, v52_2, v52_3, v52_4) (by exact ⟨Or.inr (⟨rfl, show (tpA (tbr tbf le.toInt) le.toInt fu.toInt pp.toInt).1.1 = 1 ∧ (tpA (tbr tbf le.toInt) le.toInt fu.toInt pp.toInt).1.2.1 = v52_0.toInt ∧ (tpA (tbr tbf le.toInt) le.toInt fu.toInt pp.toInt).1.2.2.1 = v52_2.toInt from tfa_1 (tpq_fb q0_c76 (tpq_V (fun p hp => tbr_hi hp) (by omega) (by omega) (by omega) (by omega) (by omega)) f_52)⟩), show FRM (1596) (1653) sf v52_4 from hf_52, show 0 ≤ (v52_1 : Int32).toInt ∧ (v52_1 : Int32).toInt ≤ 120 from by omega, show 0 ≤ (v52_2 : Int32).toInt ∧ (v52_2 : Int32).toInt ≤ 120 from by omega, c52_5⟩) (hP.sub [0, 1, 2] rfl) (hD.sub [0, 1, 2] (by decide) rfl) dX8_isLand_211 rfl
                  · have f_7 : ¬ g1_c76.toInt < le.toInt := zi_nlt c_7
                    refine lv_aload_n hx hb dX8_isLand_87 rfl (lv_at hl 1 rfl) ?_
                    refine va_get (D := D) (ci := 7) (v := .ref sl) (C := RX8) (T := TX8) (N := 16) hx hb hts (fun _ h => List.mem_cons_of_mem _ (List.mem_append_right _ h)) hown hK hP 1 rfl rfl 0 (by decide) (hts (.fieldLink RX8 7 "WinterWalkModel" "slot" "[I") (List.mem_of_getElem? (i := 2) rfl)) (fun _ h9 => h9) rfl dX8_isLand_88 ?_
                    refine lv_sipush (v := 1597) hx hb dX8_isLand_91 (by decide) ?_
                    refine va_iald hx hb hK hP 0 0 rfl rfl (zi_in (by decide) (by decide)) dX8_isLand_94 ?_
                    refine lv_topi (fun x_53 ex_53 => ?_)
                    have f_53 : 0 ≤ x_53.toInt ∧ x_53.toInt ≤ 8 := by rw [ex_53]; exact si_v ha_g4_c76 (s := 28) (by decide) (by omega)
                    have u_53 : x_53.toInt = (ur g4_c76).1 := by rw [ex_53]; exact ux_v
                    refine lv_if_ne (tgt := 215) hx hb dX8_isLand_95 (by decide) (fun c_54 => ?_) (fun c_54 => ?_)
                    · have f_54 : ¬ (ur g4_c76).1 = 0 := by
                        have h8 := zi_ne c_54
                        try rw [u_53] at h8
                        exact h8
                      refine lv_iconst (v := 1) hx hb dX8_isLand_215 (by decide) ?_
                      exact wr_z (v := 1) hx hb hr hlocks hS (g0_c76, g1_c76, g2_c76, g3_c76, g4_c76) (by exact ⟨Or.inl ⟨rfl, show ((tpA (tbr tbf le.toInt) le.toInt fu.toInt pp.toInt).1.1 = 0 ∧ (tpA (tbr tbf le.toInt) le.toInt fu.toInt pp.toInt).1.2.1 = g0_c76.toInt ∧ (tpA (tbr tbf le.toInt) le.toInt fu.toInt pp.toInt).1.2.2.1 = g2_c76.toInt ∧ (tpA (tbr tbf le.toInt) le.toInt fu.toInt pp.toInt).2.1 = (ur g4_c76).1) ∧ ((((0, g0_c76.toInt, g2_c76.toInt, g1_c76.toInt) : TPS), ur g4_c76) : TPT) = (tpA (tbr tbf le.toInt) le.toInt fu.toInt pp.toInt) from by have hA : ((((0, g0_c76.toInt, g2_c76.toInt, g1_c76.toInt) : TPS), ur g4_c76) : TPT) = (tpA (tbr tbf le.toInt) le.toInt fu.toInt pp.toInt) := (by rw [← q0_c76]; exact (tpq_e (fun p hp => tbr_hi hp) (by omega) (by omega) (by omega)).symm); exact ⟨⟨(congrArg (fun s : TPT => s.1.1) hA).symm, (congrArg (fun s : TPT => s.1.2.1) hA).symm, (congrArg (fun s : TPT => s.1.2.2.1) hA).symm, (congrArg (fun s : TPT => s.2.1) hA).symm⟩, hA⟩⟩, show FRM (1596) (1653) sf g4_c76 from hf_c76, show 0 ≤ (g1_c76 : Int32).toInt ∧ (g1_c76 : Int32).toInt ≤ 120 from by omega, show 0 ≤ (g2_c76 : Int32).toInt ∧ (g2_c76 : Int32).toInt ≤ 120 from by omega, ha_g4_c76⟩) (hP.sub [1, 0, 2] rfl) (hD.sub [1, 0, 2] (by decide) rfl) dX8_isLand_216 rfl
                    · have f_54 : (ur g4_c76).1 = 0 := by
                        have h8 := zi_eq c_54
                        try rw [u_53] at h8
                        exact h8
                      refine lv_aload_n hx hb dX8_isLand_98 rfl (lv_at hl 1 rfl) ?_
                      have k_55 := (p_X8_next l D cI cB cQ H.size h sl zs ln ir tk tb tr fz na su le g0_c76 g1_c76 g2_c76 tc g3_c76 tbf (by omega) (by omega) (by omega) (by omega) (by omega))
                      refine wc_i (WC := [(h, .inr (7, [.ref sl, .int na, .ref zs, .ref ln, .ref ir, .ref tk, .int su, .int le, .ref tb, .int g0_c76, .int g1_c76, .int g2_c76, .ref tr, .int tc, .ref fz, .int g3_c76])), (tb, .inl (cB, 120, .inl tbf))]) (WR := [(sl, .inl (cI, 1653, .inl g4_c76))]) (va_runV (As := []) (rest := []) ⟨hx, hb, hml, hown, hts⟩ k_55 (cwV 0 hts gX8_isLand_X8_next rfl rfl rfl (by decide +kernel) ⟨Nat.le_of_ble_eq_true rfl, Nat.le_of_ble_eq_true rfl⟩) (wp_V hP hK hD hN [1, 2] (by decide) rfl (ci := 7) rfl rfl) rfl rfl hl.1 rfl (lv_room (Nat.le_of_ble_eq_true rfl)) dX8_isLand_99 ⟨Nat.le_of_ble_eq_true rfl, Nat.le_of_ble_eq_true rfl⟩) hP hD hS hA [1, 2] [0] rfl rfl (by decide) (by decide) (fun r_55 u_55 H locs hw_55 hP hD hS => ?_)
                      clear k_55
                      have hP : va_P D kl [(sl, .inl (cI, 1653, .inl g4_c76)), (h, .inr (7, [.ref sl, .int na, .ref zs, .ref ln, .ref ir, .ref tk, .int su, .int le, .ref tb, .int g0_c76, .int g1_c76, .int g2_c76, .ref tr, .int tc, .ref fz, .int g3_c76])), (tb, .inl (cB, 120, .inl tbf))] H := hP
                      have hD : va_D A [(sl, .inl (cI, 1653, .inl g4_c76)), (h, .inr (7, [.ref sl, .int na, .ref zs, .ref ln, .ref ir, .ref tk, .int su, .int le, .ref tb, .int g0_c76, .int g1_c76, .int g2_c76, .ref tr, .int tc, .ref fz, .int g3_c76])), (tb, .inl (cB, 120, .inl tbf))] := hD
                      have c55_0 := hw_55
                      have c55_0 : (r_55.toInt = tbr tbf le.toInt g1_c76.toInt ∨ (r_55.toInt < 0 ∧ tbr tbf le.toInt g1_c76.toInt = (-1))) ∧ (r_55.toInt = (-1) ∨ g1_c76.toInt < le.toInt) := c55_0
                      refine lv_istore_n (lv' := [(2, .int r_55), (1, .int t1_c76), (0, .ref h)]) hx hb dX8_isLand_102 rfl hl (by decide) rfl (fun ls hl => ?_)
                      refine lv_iload_n hx hb dX8_isLand_103 rfl (lv_at hl 0 rfl) ?_
                      have k_56 := (p_X8_sortOf l D cI cB cQ H.size r_55)
                      refine wc_i (WC := []) (WR := [(sl, .inl (cI, 1653, .inl g4_c76)), (h, .inr (7, [.ref sl, .int na, .ref zs, .ref ln, .ref ir, .ref tk, .int su, .int le, .ref tb, .int g0_c76, .int g1_c76, .int g2_c76, .ref tr, .int tc, .ref fz, .int g3_c76])), (tb, .inl (cB, 120, .inl tbf))]) (va_runS (As := [.int r_55]) (rest := []) ⟨hx, hb, hml, hown, hts⟩ k_56 (va_cwS 1 hts gX8_isLand_X8_sortOf rfl rfl rfl (by decide +kernel) ⟨Nat.le_of_ble_eq_true rfl, Nat.le_of_ble_eq_true rfl⟩) (wp_S hP hK hD hN [] (by decide) rfl) rfl rfl hl.1 rfl (lv_room (Nat.le_of_ble_eq_true rfl)) dX8_isLand_104 ⟨Nat.le_of_ble_eq_true rfl, Nat.le_of_ble_eq_true rfl⟩) hP hD hS hA [] [0, 1, 2] rfl rfl (by decide) (by decide) (fun r_56 u_56 H locs hw_56 hP hD hS => ?_)
                      clear k_56
                      have hP : va_P D kl [(sl, .inl (cI, 1653, .inl g4_c76)), (h, .inr (7, [.ref sl, .int na, .ref zs, .ref ln, .ref ir, .ref tk, .int su, .int le, .ref tb, .int g0_c76, .int g1_c76, .int g2_c76, .ref tr, .int tc, .ref fz, .int g3_c76])), (tb, .inl (cB, 120, .inl tbf))] H := hP
                      have hD : va_D A [(sl, .inl (cI, 1653, .inl g4_c76)), (h, .inr (7, [.ref sl, .int na, .ref zs, .ref ln, .ref ir, .ref tk, .int su, .int le, .ref tb, .int g0_c76, .int g1_c76, .int g2_c76, .ref tr, .int tc, .ref fz, .int g3_c76])), (tb, .inl (cB, 120, .inl tbf))] := hD
                      have c56_0 := hw_56
                      have c56_0 : r_56.toInt = tpo r_55.toInt ∧ ((0 ≤ r_56.toInt ∧ r_56.toInt ≤ 5) ∧ (r_56.toInt = 0 ∨ 0 ≤ r_55.toInt)) := c56_0
                      have hs_56 := tpo_same c55_0.1
                      refine lv_istore_n (lv' := [(3, .int r_56), (2, .int r_55), (1, .int t1_c76), (0, .ref h)]) hx hb dX8_isLand_107 rfl hl (by decide) rfl (fun ls hl => ?_)
                      refine lv_iload_n hx hb dX8_isLand_108 rfl (lv_at hl 1 rfl) ?_
                      refine lv_bipush (v := 103) hx hb dX8_isLand_109 (by decide) ?_
                      refine lv_icmp_eq (tgt := 120) hx hb dX8_isLand_111 (by decide) (fun c_57 => ?_) (fun c_57 => ?_)
                      · have f_57 : r_55.toInt = 103 := zi_eq c_57
                        refine lv_iload_n hx hb dX8_isLand_120 rfl (lv_at hl 2 rfl) ?_
                        refine lv_if_ne (tgt := 134) hx hb dX8_isLand_121 (by decide) (fun c_58 => ?_) (fun c_58 => ?_)
                        · have f_58 : ¬ t1_c76.toInt = 0 := zi_ne c_58
                          refine lv_iload_n hx hb dX8_isLand_134 rfl (lv_at hl 1 rfl) ?_
                          refine lv_bipush (v := 114) hx hb dX8_isLand_135 (by decide) ?_
                          refine lv_icmp_ne (tgt := 167) hx hb dX8_isLand_137 (by decide) (fun c_59 => ?_) (fun c_59 => ?_)
                          · have f_59 : ¬ r_55.toInt = 114 := zi_ne c_59
                            refine lv_iload_n hx hb dX8_isLand_167 rfl (lv_at hl 0 rfl) ?_
                            refine lv_if_le (tgt := 194) hx hb dX8_isLand_168 (by decide) (fun c_60 => ?_) (fun c_60 => ?_)
                            · have f_60 : r_56.toInt ≤ 0 := zi_le c_60
                              refine lv_aload_n hx hb dX8_isLand_194 rfl (lv_at hl 3 rfl) ?_
                              refine lv_iconst (v := 1) hx hb dX8_isLand_195 (by decide) ?_
                              refine lv_aload_n hx hb dX8_isLand_196 rfl (lv_at hl 3 rfl) ?_
                              refine va_get (D := D) (ci := 7) (v := .int g1_c76) (C := RX8) (T := TX8) (N := 16) hx hb hts (fun _ h => List.mem_cons_of_mem _ (List.mem_append_right _ h)) hown hK hP 1 rfl rfl 10 (by decide) (hts (.fieldLink RX8 62 "WinterWalkModel" "at" "I") (List.mem_of_getElem? (i := 1) rfl)) (fun _ h9 => h9) rfl dX8_isLand_197 ?_
                              have k_61 := (p_X8_fails l D cI cB cQ H.size h sl zs ln ir tk tb tr fz na su le g0_c76 g1_c76 g2_c76 tc g3_c76 1 g1_c76 (by omega) (by omega))
                              refine wc_i (WC := [(h, .inr (7, [.ref sl, .int na, .ref zs, .ref ln, .ref ir, .ref tk, .int su, .int le, .ref tb, .int g0_c76, .int g1_c76, .int g2_c76, .ref tr, .int tc, .ref fz, .int g3_c76]))]) (WR := [(sl, .inl (cI, 1653, .inl g4_c76)), (tb, .inl (cB, 120, .inl tbf))]) (va_runV (As := [.int 1, .int g1_c76]) (rest := []) ⟨hx, hb, hml, hown, hts⟩ k_61 (cwV 2 hts gX8_isLand_X8_fails rfl rfl rfl (by decide +kernel) ⟨Nat.le_of_ble_eq_true rfl, Nat.le_of_ble_eq_true rfl⟩) (wp_V hP hK hD hN [1] (by decide) rfl (ci := 7) rfl rfl) rfl rfl hl.1 rfl (lv_room (Nat.le_of_ble_eq_true rfl)) dX8_isLand_200 ⟨Nat.le_of_ble_eq_true rfl, Nat.le_of_ble_eq_true rfl⟩) hP hD hS hA [1] [0, 2] rfl rfl (by decide) (by decide) (fun r_61 => pe2 (fun v61_0 v61_1 H locs hw_61 hP hD hS => ?_))
                              clear k_61
                              have hP : va_P D kl [(sl, .inl (cI, 1653, .inl g4_c76)), (tb, .inl (cB, 120, .inl tbf)), (h, .inr (7, [.ref sl, .int na, .ref zs, .ref ln, .ref ir, .ref tk, .int su, .int le, .ref tb, .int v61_0, .int g1_c76, .int v61_1, .ref tr, .int tc, .ref fz, .int g3_c76]))] H := hP
                              have hD : va_D A [(sl, .inl (cI, 1653, .inl g4_c76)), (tb, .inl (cB, 120, .inl tbf)), (h, .inr (7, [.ref sl, .int na, .ref zs, .ref ln, .ref ir, .ref tk, .int su, .int le, .ref tb, .int v61_0, .int g1_c76, .int v61_1, .ref tr, .int tc, .ref fz, .int g3_c76]))] := hD
                              obtain ⟨c61_0, c61_1, c61_2⟩ := hw_61
                              have c61_1 : v61_0.toInt = (1 : Int) ∧ v61_1.toInt = g1_c76.toInt := c61_1
                              have c61_2 : 0 ≤ v61_1.toInt ∧ v61_1.toInt ≤ 120 := c61_2
                              have e_61 := c61_0
                              · subst e_61
                                refine lv_istore (lv' := [(4, .int 0), (3, .int r_56), (2, .int r_55), (1, .int t1_c76), (0, .ref h)]) hx hb dX8_isLand_203 hl (by decide) rfl (fun ls hl => ?_)
                                refine lv_iload hx hb dX8_isLand_205 (lv_at hl 0 rfl) ?_
                                refine lv_if_ne (tgt := 212) hx hb dX8_isLand_207 (by decide) (fun c9 => absurd (by decide) c9) (fun _ => ?_)
                                refine lv_iconst (v := 0) hx hb dX8_isLand_210 (by decide) ?_
                                exact wr_z (v := 0) hx hb hr hlocks hS (v61_0, g1_c76, v61_1, g3_c76, g4_c76) (by exact ⟨Or.inr (⟨rfl, show (tpA (tbr tbf le.toInt) le.toInt fu.toInt pp.toInt).1.1 = 1 ∧ (tpA (tbr tbf le.toInt) le.toInt fu.toInt pp.toInt).1.2.1 = v61_0.toInt ∧ (tpA (tbr tbf le.toInt) le.toInt fu.toInt pp.toInt).1.2.2.1 = v61_1.toInt from tfa_1 (by rw [← q0_c76]; exact tpq_x (by omega) (by omega) (by omega) (by omega) (by omega) (by omega) (by omega) (by omega) (by omega))⟩), show FRM (1596) (1653) sf g4_c76 from hf_c76, show 0 ≤ (g1_c76 : Int32).toInt ∧ (g1_c76 : Int32).toInt ≤ 120 from by omega, show 0 ≤ (v61_1 : Int32).toInt ∧ (v61_1 : Int32).toInt ≤ 120 from by omega, ha_g4_c76⟩) (hP.sub [2, 0, 1] rfl) (hD.sub [2, 0, 1] (by decide) rfl) dX8_isLand_211 rfl
                            · have f_60 : ¬ r_56.toInt ≤ 0 := zi_nle c_60
                              refine lv_aload_n hx hb dX8_isLand_171 rfl (lv_at hl 3 rfl) ?_
                              refine va_get (D := D) (ci := 7) (v := .ref sl) (C := RX8) (T := TX8) (N := 16) hx hb hts (fun _ h => List.mem_cons_of_mem _ (List.mem_append_right _ h)) hown hK hP 1 rfl rfl 0 (by decide) (hts (.fieldLink RX8 7 "WinterWalkModel" "slot" "[I") (List.mem_of_getElem? (i := 2) rfl)) (fun _ h9 => h9) rfl dX8_isLand_172 ?_
                              refine lv_sipush (v := 1597) hx hb dX8_isLand_175 (by decide) ?_
                              refine va_iald hx hb hK hP 0 0 rfl rfl (zi_in (by decide) (by decide)) dX8_isLand_178 ?_
                              refine lv_topi (fun x_62 ex_62 => ?_)
                              have f_62 : 0 ≤ x_62.toInt ∧ x_62.toInt ≤ 8 := by rw [ex_62]; exact si_v ha_g4_c76 (s := 28) (by decide) (by omega)
                              have u_62 : x_62.toInt = (ur g4_c76).1 := by rw [ex_62]; exact ux_v
                              refine lv_if_le (tgt := 194) hx hb dX8_isLand_179 (by decide) (fun c_63 => ?_) (fun c_63 => ?_)
                              · have f_63 : (ur g4_c76).1 ≤ 0 := by
                                  have h8 := zi_le c_63
                                  try rw [u_62] at h8
                                  exact h8
                                refine lv_aload_n hx hb dX8_isLand_194 rfl (lv_at hl 3 rfl) ?_
                                refine lv_iconst (v := 1) hx hb dX8_isLand_195 (by decide) ?_
                                refine lv_aload_n hx hb dX8_isLand_196 rfl (lv_at hl 3 rfl) ?_
                                refine va_get (D := D) (ci := 7) (v := .int g1_c76) (C := RX8) (T := TX8) (N := 16) hx hb hts (fun _ h => List.mem_cons_of_mem _ (List.mem_append_right _ h)) hown hK hP 1 rfl rfl 10 (by decide) (hts (.fieldLink RX8 62 "WinterWalkModel" "at" "I") (List.mem_of_getElem? (i := 1) rfl)) (fun _ h9 => h9) rfl dX8_isLand_197 ?_
                                have k_64 := (p_X8_fails l D cI cB cQ H.size h sl zs ln ir tk tb tr fz na su le g0_c76 g1_c76 g2_c76 tc g3_c76 1 g1_c76 (by omega) (by omega))
                                refine wc_i (WC := [(h, .inr (7, [.ref sl, .int na, .ref zs, .ref ln, .ref ir, .ref tk, .int su, .int le, .ref tb, .int g0_c76, .int g1_c76, .int g2_c76, .ref tr, .int tc, .ref fz, .int g3_c76]))]) (WR := [(sl, .inl (cI, 1653, .inl g4_c76)), (tb, .inl (cB, 120, .inl tbf))]) (va_runV (As := [.int 1, .int g1_c76]) (rest := []) ⟨hx, hb, hml, hown, hts⟩ k_64 (cwV 2 hts gX8_isLand_X8_fails rfl rfl rfl (by decide +kernel) ⟨Nat.le_of_ble_eq_true rfl, Nat.le_of_ble_eq_true rfl⟩) (wp_V hP hK hD hN [1] (by decide) rfl (ci := 7) rfl rfl) rfl rfl hl.1 rfl (lv_room (Nat.le_of_ble_eq_true rfl)) dX8_isLand_200 ⟨Nat.le_of_ble_eq_true rfl, Nat.le_of_ble_eq_true rfl⟩) hP hD hS hA [1] [0, 2] rfl rfl (by decide) (by decide) (fun r_64 => pe2 (fun v64_0 v64_1 H locs hw_64 hP hD hS => ?_))
                                clear k_64
                                have hP : va_P D kl [(sl, .inl (cI, 1653, .inl g4_c76)), (tb, .inl (cB, 120, .inl tbf)), (h, .inr (7, [.ref sl, .int na, .ref zs, .ref ln, .ref ir, .ref tk, .int su, .int le, .ref tb, .int v64_0, .int g1_c76, .int v64_1, .ref tr, .int tc, .ref fz, .int g3_c76]))] H := hP
                                have hD : va_D A [(sl, .inl (cI, 1653, .inl g4_c76)), (tb, .inl (cB, 120, .inl tbf)), (h, .inr (7, [.ref sl, .int na, .ref zs, .ref ln, .ref ir, .ref tk, .int su, .int le, .ref tb, .int v64_0, .int g1_c76, .int v64_1, .ref tr, .int tc, .ref fz, .int g3_c76]))] := hD
                                obtain ⟨c64_0, c64_1, c64_2⟩ := hw_64
                                have c64_1 : v64_0.toInt = (1 : Int) ∧ v64_1.toInt = g1_c76.toInt := c64_1
                                have c64_2 : 0 ≤ v64_1.toInt ∧ v64_1.toInt ≤ 120 := c64_2
                                have e_64 := c64_0
                                · subst e_64
                                  refine lv_istore (lv' := [(4, .int 0), (3, .int r_56), (2, .int r_55), (1, .int t1_c76), (0, .ref h)]) hx hb dX8_isLand_203 hl (by decide) rfl (fun ls hl => ?_)
                                  refine lv_iload hx hb dX8_isLand_205 (lv_at hl 0 rfl) ?_
                                  refine lv_if_ne (tgt := 212) hx hb dX8_isLand_207 (by decide) (fun c9 => absurd (by decide) c9) (fun _ => ?_)
                                  refine lv_iconst (v := 0) hx hb dX8_isLand_210 (by decide) ?_
                                  exact wr_z (v := 0) hx hb hr hlocks hS (v64_0, g1_c76, v64_1, g3_c76, g4_c76) (by exact ⟨Or.inr (⟨rfl, show (tpA (tbr tbf le.toInt) le.toInt fu.toInt pp.toInt).1.1 = 1 ∧ (tpA (tbr tbf le.toInt) le.toInt fu.toInt pp.toInt).1.2.1 = v64_0.toInt ∧ (tpA (tbr tbf le.toInt) le.toInt fu.toInt pp.toInt).1.2.2.1 = v64_1.toInt from tfa_1 (by rw [← q0_c76]; exact tpq_x (by omega) (by omega) (by omega) (by omega) (by omega) (by omega) (by omega) (by omega) (by omega))⟩), show FRM (1596) (1653) sf g4_c76 from hf_c76, show 0 ≤ (g1_c76 : Int32).toInt ∧ (g1_c76 : Int32).toInt ≤ 120 from by omega, show 0 ≤ (v64_1 : Int32).toInt ∧ (v64_1 : Int32).toInt ≤ 120 from by omega, ha_g4_c76⟩) (hP.sub [2, 0, 1] rfl) (hD.sub [2, 0, 1] (by decide) rfl) dX8_isLand_211 rfl
                              · have f_63 : ¬ (ur g4_c76).1 ≤ 0 := by
                                  have h8 := zi_nle c_63
                                  try rw [u_62] at h8
                                  exact h8
                                refine lv_iconst (v := 2) hx hb dX8_isLand_182 (by decide) ?_
                                refine lv_istore_n (lv' := [(1, .int 2), (3, .int r_56), (2, .int r_55), (0, .ref h)]) hx hb dX8_isLand_183 rfl hl (by decide) rfl (fun ls hl => ?_)
                                refine lv_aload_n hx hb dX8_isLand_184 rfl (lv_at hl 3 rfl) ?_
                                refine lv_iload_n hx hb dX8_isLand_185 rfl (lv_at hl 2 rfl) ?_
                                have k_65 := (p_X8_isWalker l D cI cB cQ H.size h sl zs ln ir tk tb tr fz na su le g0_c76 g1_c76 g2_c76 tc g3_c76 r_55 g4_c76 tbf v0 ha_g4_c76 (by omega) (by omega) (by omega) (by omega) (by omega) (by omega) (by omega))
                                refine wc_i (WC := [(h, .inr (7, [.ref sl, .int na, .ref zs, .ref ln, .ref ir, .ref tk, .int su, .int le, .ref tb, .int g0_c76, .int g1_c76, .int g2_c76, .ref tr, .int tc, .ref fz, .int g3_c76])), (sl, .inl (cI, 1653, .inl g4_c76)), (tb, .inl (cB, 120, .inl tbf))]) (WR := []) (va_runV (As := [.int r_55]) (rest := []) ⟨hx, hb, hml, hown, hts⟩ k_65 (cwV 1 hts gX8_isLand_X8_isWalker rfl rfl rfl (by decide +kernel) ⟨Nat.le_of_ble_eq_true rfl, Nat.le_of_ble_eq_true rfl⟩) (wp_V hP hK hD hN [1, 0, 2] (by decide) rfl (ci := 7) rfl rfl) rfl rfl hl.1 rfl (lv_room (Nat.le_of_ble_eq_true rfl)) dX8_isLand_186 ⟨Nat.le_of_ble_eq_true rfl, Nat.le_of_ble_eq_true rfl⟩) hP hD hS hA [1, 0, 2] [] rfl rfl (by decide) (by decide) (fun r_65 => pe5 (fun v65_0 v65_1 v65_2 v65_3 v65_4 H locs hw_65 hP hD hS => ?_))
                                clear k_65
                                have hP : va_P D kl [(h, .inr (7, [.ref sl, .int na, .ref zs, .ref ln, .ref ir, .ref tk, .int su, .int le, .ref tb, .int v65_0, .int v65_1, .int v65_2, .ref tr, .int tc, .ref fz, .int v65_3])), (sl, .inl (cI, 1653, .inl v65_4)), (tb, .inl (cB, 120, .inl tbf))] H := hP
                                have hD : va_D A [(h, .inr (7, [.ref sl, .int na, .ref zs, .ref ln, .ref ir, .ref tk, .int su, .int le, .ref tb, .int v65_0, .int v65_1, .int v65_2, .ref tr, .int tc, .ref fz, .int v65_3])), (sl, .inl (cI, 1653, .inl v65_4)), (tb, .inl (cB, 120, .inl tbf))] := hD
                                obtain ⟨c65_0, c65_1, c65_2, c65_3, c65_4, c65_5⟩ := hw_65
                                have c65_1 : (g1_c76.toInt ≤ v65_1.toInt) := c65_1
                                have c65_2 : FRM (1596) (1653) g4_c76 v65_4 := c65_2
                                have c65_3 : 0 ≤ v65_1.toInt ∧ v65_1.toInt ≤ 120 := c65_3
                                have c65_4 : 0 ≤ v65_2.toInt ∧ v65_2.toInt ≤ 120 := c65_4
                                have c65_5 : SI v65_4 v0 := c65_5
                                have hf_65 : FRM (1596) (1653) sf v65_4 := FRM.trans hf_c76 (FRM.sub c65_2 (by omega) (by omega))
                                rcases c65_0 with ⟨e_65, f_65⟩ | ⟨e_65, f_65⟩
                                · subst e_65
                                  have f_65 : ((((0, v65_0.toInt, v65_2.toInt, v65_1.toInt) : TPS), ur v65_4) : TPT) = tpW (tbr tbf le.toInt) ((0, g0_c76.toInt, g2_c76.toInt, g1_c76.toInt), ur g4_c76) ∧ g1_c76.toInt < v65_1.toInt ∧ (ur v65_4).1 = (ur g4_c76).1 ∧ (ur v65_4).2.1 = (ur g4_c76).2.1 := f_65
                                  refine lv_istore (lv' := [(4, .int 1), (1, .int 2), (3, .int r_56), (2, .int r_55), (0, .ref h)]) hx hb dX8_isLand_189 hl (by decide) rfl (fun ls hl => ?_)
                                  refine lv_goto (tgt := 205) hx hb dX8_isLand_191 (by decide) ?_
                                  refine lv_iload hx hb dX8_isLand_205 (lv_at hl 0 rfl) ?_
                                  refine lv_if_ne (tgt := 212) hx hb dX8_isLand_207 (by decide) (fun _ => ?_) (fun c9 => absurd c9 (by decide))
                                  refine lv_goto (tgt := 76) hx hb dX8_isLand_212 (by decide) ?_
                                  exact ih76 2 v65_0 v65_1 v65_2 v65_3 v65_4 _ _ _ (show 0 ≤ 2 ∧ 2 ≤ 2 from by omega) (show 0 ≤ v65_1.toInt ∧ v65_1.toInt ≤ 120 from by omega) (show 0 ≤ v65_2.toInt ∧ v65_2.toInt ≤ 120 from by omega) c65_5 (show 2 = 0 ∨ 1 ≤ (ur v65_4).1 from by omega) (show 0 ≤ (ur v65_4).1 from by omega) (show 0 ≤ (ur v65_4).2.1 ∧ (ur v65_4).2.1 ≤ 12 from by omega) (tpq_back q0_c76 (tpq_W (fun p hp => tbr_hi hp) (by omega) (by omega) (by omega) (by omega) (by omega)) f_65.1 (by first | omega | decide)) hf_65 (by omega) (hP.sub [1, 0, 2] rfl) (hD.sub [1, 0, 2] (by decide) rfl) hS (lv_sub hl [1, 4] rfl)
                                · subst e_65
                                  have f_65 : tfa (tpW (tbr tbf le.toInt) ((0, g0_c76.toInt, g2_c76.toInt, g1_c76.toInt), ur g4_c76)).1 v65_0.toInt v65_2.toInt := f_65
                                  refine lv_istore (lv' := [(4, .int 0), (1, .int 2), (3, .int r_56), (2, .int r_55), (0, .ref h)]) hx hb dX8_isLand_189 hl (by decide) rfl (fun ls hl => ?_)
                                  refine lv_goto (tgt := 205) hx hb dX8_isLand_191 (by decide) ?_
                                  refine lv_iload hx hb dX8_isLand_205 (lv_at hl 0 rfl) ?_
                                  refine lv_if_ne (tgt := 212) hx hb dX8_isLand_207 (by decide) (fun c9 => absurd (by decide) c9) (fun _ => ?_)
                                  refine lv_iconst (v := 0) hx hb dX8_isLand_210 (by decide) ?_
                                  exact wr_z (v := 0) hx hb hr hlocks hS (v65_0, v65_1, v65_2, v65_3, v65_4) (by exact ⟨Or.inr (⟨rfl, show (tpA (tbr tbf le.toInt) le.toInt fu.toInt pp.toInt).1.1 = 1 ∧ (tpA (tbr tbf le.toInt) le.toInt fu.toInt pp.toInt).1.2.1 = v65_0.toInt ∧ (tpA (tbr tbf le.toInt) le.toInt fu.toInt pp.toInt).1.2.2.1 = v65_2.toInt from tfa_1 (tpq_fb q0_c76 (tpq_W (fun p hp => tbr_hi hp) (by omega) (by omega) (by omega) (by omega) (by omega)) f_65)⟩), show FRM (1596) (1653) sf v65_4 from hf_65, show 0 ≤ (v65_1 : Int32).toInt ∧ (v65_1 : Int32).toInt ≤ 120 from by omega, show 0 ≤ (v65_2 : Int32).toInt ∧ (v65_2 : Int32).toInt ≤ 120 from by omega, c65_5⟩) (hP.sub [0, 1, 2] rfl) (hD.sub [0, 1, 2] (by decide) rfl) dX8_isLand_211 rfl
                          · have f_59 : r_55.toInt = 114 := zi_eq c_59
                            exfalso; omega
                        · have f_58 : t1_c76.toInt = 0 := zi_eq c_58
                          refine lv_aload_n hx hb dX8_isLand_124 rfl (lv_at hl 3 rfl) ?_
                          refine lv_iload_n hx hb dX8_isLand_125 rfl (lv_at hl 1 rfl) ?_
                          have k_66 := (p_X8_isVillage l D cI cB cQ H.size h sl zs ln ir tk tb tr fz na su le g0_c76 g1_c76 g2_c76 tc g3_c76 r_55 g4_c76 tbf v0 ha_g4_c76 (by omega) (by omega) (by omega) (by omega) (by omega) (by omega))
                          refine wc_i (WC := [(h, .inr (7, [.ref sl, .int na, .ref zs, .ref ln, .ref ir, .ref tk, .int su, .int le, .ref tb, .int g0_c76, .int g1_c76, .int g2_c76, .ref tr, .int tc, .ref fz, .int g3_c76])), (sl, .inl (cI, 1653, .inl g4_c76)), (tb, .inl (cB, 120, .inl tbf))]) (WR := []) (va_runV (As := [.int r_55]) (rest := []) ⟨hx, hb, hml, hown, hts⟩ k_66 (cwV 1 hts gX8_isLand_X8_isVillage rfl rfl rfl (by decide +kernel) ⟨Nat.le_of_ble_eq_true rfl, Nat.le_of_ble_eq_true rfl⟩) (wp_V hP hK hD hN [1, 0, 2] (by decide) rfl (ci := 7) rfl rfl) rfl rfl hl.1 rfl (lv_room (Nat.le_of_ble_eq_true rfl)) dX8_isLand_126 ⟨Nat.le_of_ble_eq_true rfl, Nat.le_of_ble_eq_true rfl⟩) hP hD hS hA [1, 0, 2] [] rfl rfl (by decide) (by decide) (fun r_66 => pe5 (fun v66_0 v66_1 v66_2 v66_3 v66_4 H locs hw_66 hP hD hS => ?_))
                          clear k_66
                          have hP : va_P D kl [(h, .inr (7, [.ref sl, .int na, .ref zs, .ref ln, .ref ir, .ref tk, .int su, .int le, .ref tb, .int v66_0, .int v66_1, .int v66_2, .ref tr, .int tc, .ref fz, .int v66_3])), (sl, .inl (cI, 1653, .inl v66_4)), (tb, .inl (cB, 120, .inl tbf))] H := hP
                          have hD : va_D A [(h, .inr (7, [.ref sl, .int na, .ref zs, .ref ln, .ref ir, .ref tk, .int su, .int le, .ref tb, .int v66_0, .int v66_1, .int v66_2, .ref tr, .int tc, .ref fz, .int v66_3])), (sl, .inl (cI, 1653, .inl v66_4)), (tb, .inl (cB, 120, .inl tbf))] := hD
                          obtain ⟨c66_0, c66_1, c66_2, c66_3, c66_4, c66_5⟩ := hw_66
                          have c66_1 : (g1_c76.toInt ≤ v66_1.toInt) := c66_1
                          have c66_2 : FRM (1596) (1653) g4_c76 v66_4 := c66_2
                          have c66_3 : 0 ≤ v66_1.toInt ∧ v66_1.toInt ≤ 120 := c66_3
                          have c66_4 : 0 ≤ v66_2.toInt ∧ v66_2.toInt ≤ 120 := c66_4
                          have c66_5 : SI v66_4 v0 := c66_5
                          have hf_66 : FRM (1596) (1653) sf v66_4 := FRM.trans hf_c76 (FRM.sub c66_2 (by omega) (by omega))
                          rcases c66_0 with ⟨e_66, f_66⟩ | ⟨e_66, f_66⟩
                          · subst e_66
                            have f_66 : ((((0, v66_0.toInt, v66_2.toInt, v66_1.toInt) : TPS), ur v66_4) : TPT) = tpV (tbr tbf le.toInt) ((0, g0_c76.toInt, g2_c76.toInt, g1_c76.toInt), ur g4_c76) ∧ g1_c76.toInt < v66_1.toInt ∧ (ur v66_4).1 = (ur g4_c76).1 + 1 ∧ (ur v66_4).2.1 = (ur g4_c76).2.1 := f_66
                            refine lv_istore (lv' := [(4, .int 1), (3, .int r_56), (2, .int r_55), (1, .int t1_c76), (0, .ref h)]) hx hb dX8_isLand_129 hl (by decide) rfl (fun ls hl => ?_)
                            refine lv_goto (tgt := 205) hx hb dX8_isLand_131 (by decide) ?_
                            refine lv_iload hx hb dX8_isLand_205 (lv_at hl 0 rfl) ?_
                            refine lv_if_ne (tgt := 212) hx hb dX8_isLand_207 (by decide) (fun _ => ?_) (fun c9 => absurd c9 (by decide))
                            refine lv_goto (tgt := 76) hx hb dX8_isLand_212 (by decide) ?_
                            exact ih76 t1_c76 v66_0 v66_1 v66_2 v66_3 v66_4 _ _ _ (show 0 ≤ t1_c76.toInt ∧ t1_c76.toInt ≤ 2 from by omega) (show 0 ≤ v66_1.toInt ∧ v66_1.toInt ≤ 120 from by omega) (show 0 ≤ v66_2.toInt ∧ v66_2.toInt ≤ 120 from by omega) c66_5 (show t1_c76.toInt = 0 ∨ 1 ≤ (ur v66_4).1 from by omega) (show 0 ≤ (ur v66_4).1 from by omega) (show 0 ≤ (ur v66_4).2.1 ∧ (ur v66_4).2.1 ≤ 12 from by omega) (tpq_back q0_c76 (tpq_V (fun p hp => tbr_hi hp) (by omega) (by omega) (by omega) (by omega) (by omega)) f_66.1 (by first | omega | decide)) hf_66 (by omega) (hP.sub [1, 0, 2] rfl) (hD.sub [1, 0, 2] (by decide) rfl) hS (lv_sub hl [3, 4] rfl)
                          · subst e_66
                            have f_66 : tfa (tpV (tbr tbf le.toInt) ((0, g0_c76.toInt, g2_c76.toInt, g1_c76.toInt), ur g4_c76)).1 v66_0.toInt v66_2.toInt := f_66
                            refine lv_istore (lv' := [(4, .int 0), (3, .int r_56), (2, .int r_55), (1, .int t1_c76), (0, .ref h)]) hx hb dX8_isLand_129 hl (by decide) rfl (fun ls hl => ?_)
                            refine lv_goto (tgt := 205) hx hb dX8_isLand_131 (by decide) ?_
                            refine lv_iload hx hb dX8_isLand_205 (lv_at hl 0 rfl) ?_
                            refine lv_if_ne (tgt := 212) hx hb dX8_isLand_207 (by decide) (fun c9 => absurd (by decide) c9) (fun _ => ?_)
                            refine lv_iconst (v := 0) hx hb dX8_isLand_210 (by decide) ?_
                            exact wr_z (v := 0) hx hb hr hlocks hS (v66_0, v66_1, v66_2, v66_3, v66_4) (by exact ⟨Or.inr (⟨rfl, show (tpA (tbr tbf le.toInt) le.toInt fu.toInt pp.toInt).1.1 = 1 ∧ (tpA (tbr tbf le.toInt) le.toInt fu.toInt pp.toInt).1.2.1 = v66_0.toInt ∧ (tpA (tbr tbf le.toInt) le.toInt fu.toInt pp.toInt).1.2.2.1 = v66_2.toInt from tfa_1 (tpq_fb q0_c76 (tpq_V (fun p hp => tbr_hi hp) (by omega) (by omega) (by omega) (by omega) (by omega)) f_66)⟩), show FRM (1596) (1653) sf v66_4 from hf_66, show 0 ≤ (v66_1 : Int32).toInt ∧ (v66_1 : Int32).toInt ≤ 120 from by omega, show 0 ≤ (v66_2 : Int32).toInt ∧ (v66_2 : Int32).toInt ≤ 120 from by omega, c66_5⟩) (hP.sub [0, 1, 2] rfl) (hD.sub [0, 1, 2] (by decide) rfl) dX8_isLand_211 rfl
                      · have f_57 : ¬ r_55.toInt = 103 := zi_ne c_57
                        refine lv_iload_n hx hb dX8_isLand_114 rfl (lv_at hl 1 rfl) ?_
                        refine lv_bipush (v := 99) hx hb dX8_isLand_115 (by decide) ?_
                        refine lv_icmp_ne (tgt := 134) hx hb dX8_isLand_117 (by decide) (fun c_67 => ?_) (fun c_67 => ?_)
                        · have f_67 : ¬ r_55.toInt = 99 := zi_ne c_67
                          refine lv_iload_n hx hb dX8_isLand_134 rfl (lv_at hl 1 rfl) ?_
                          refine lv_bipush (v := 114) hx hb dX8_isLand_135 (by decide) ?_
                          refine lv_icmp_ne (tgt := 167) hx hb dX8_isLand_137 (by decide) (fun c_68 => ?_) (fun c_68 => ?_)
                          · have f_68 : ¬ r_55.toInt = 114 := zi_ne c_68
                            refine lv_iload_n hx hb dX8_isLand_167 rfl (lv_at hl 0 rfl) ?_
                            refine lv_if_le (tgt := 194) hx hb dX8_isLand_168 (by decide) (fun c_69 => ?_) (fun c_69 => ?_)
                            · have f_69 : r_56.toInt ≤ 0 := zi_le c_69
                              refine lv_aload_n hx hb dX8_isLand_194 rfl (lv_at hl 3 rfl) ?_
                              refine lv_iconst (v := 1) hx hb dX8_isLand_195 (by decide) ?_
                              refine lv_aload_n hx hb dX8_isLand_196 rfl (lv_at hl 3 rfl) ?_
                              refine va_get (D := D) (ci := 7) (v := .int g1_c76) (C := RX8) (T := TX8) (N := 16) hx hb hts (fun _ h => List.mem_cons_of_mem _ (List.mem_append_right _ h)) hown hK hP 1 rfl rfl 10 (by decide) (hts (.fieldLink RX8 62 "WinterWalkModel" "at" "I") (List.mem_of_getElem? (i := 1) rfl)) (fun _ h9 => h9) rfl dX8_isLand_197 ?_
                              have k_70 := (p_X8_fails l D cI cB cQ H.size h sl zs ln ir tk tb tr fz na su le g0_c76 g1_c76 g2_c76 tc g3_c76 1 g1_c76 (by omega) (by omega))
                              refine wc_i (WC := [(h, .inr (7, [.ref sl, .int na, .ref zs, .ref ln, .ref ir, .ref tk, .int su, .int le, .ref tb, .int g0_c76, .int g1_c76, .int g2_c76, .ref tr, .int tc, .ref fz, .int g3_c76]))]) (WR := [(sl, .inl (cI, 1653, .inl g4_c76)), (tb, .inl (cB, 120, .inl tbf))]) (va_runV (As := [.int 1, .int g1_c76]) (rest := []) ⟨hx, hb, hml, hown, hts⟩ k_70 (cwV 2 hts gX8_isLand_X8_fails rfl rfl rfl (by decide +kernel) ⟨Nat.le_of_ble_eq_true rfl, Nat.le_of_ble_eq_true rfl⟩) (wp_V hP hK hD hN [1] (by decide) rfl (ci := 7) rfl rfl) rfl rfl hl.1 rfl (lv_room (Nat.le_of_ble_eq_true rfl)) dX8_isLand_200 ⟨Nat.le_of_ble_eq_true rfl, Nat.le_of_ble_eq_true rfl⟩) hP hD hS hA [1] [0, 2] rfl rfl (by decide) (by decide) (fun r_70 => pe2 (fun v70_0 v70_1 H locs hw_70 hP hD hS => ?_))
                              clear k_70
                              have hP : va_P D kl [(sl, .inl (cI, 1653, .inl g4_c76)), (tb, .inl (cB, 120, .inl tbf)), (h, .inr (7, [.ref sl, .int na, .ref zs, .ref ln, .ref ir, .ref tk, .int su, .int le, .ref tb, .int v70_0, .int g1_c76, .int v70_1, .ref tr, .int tc, .ref fz, .int g3_c76]))] H := hP
                              have hD : va_D A [(sl, .inl (cI, 1653, .inl g4_c76)), (tb, .inl (cB, 120, .inl tbf)), (h, .inr (7, [.ref sl, .int na, .ref zs, .ref ln, .ref ir, .ref tk, .int su, .int le, .ref tb, .int v70_0, .int g1_c76, .int v70_1, .ref tr, .int tc, .ref fz, .int g3_c76]))] := hD
                              obtain ⟨c70_0, c70_1, c70_2⟩ := hw_70
                              have c70_1 : v70_0.toInt = (1 : Int) ∧ v70_1.toInt = g1_c76.toInt := c70_1
                              have c70_2 : 0 ≤ v70_1.toInt ∧ v70_1.toInt ≤ 120 := c70_2
                              have e_70 := c70_0
                              · subst e_70
                                refine lv_istore (lv' := [(4, .int 0), (3, .int r_56), (2, .int r_55), (1, .int t1_c76), (0, .ref h)]) hx hb dX8_isLand_203 hl (by decide) rfl (fun ls hl => ?_)
                                refine lv_iload hx hb dX8_isLand_205 (lv_at hl 0 rfl) ?_
                                refine lv_if_ne (tgt := 212) hx hb dX8_isLand_207 (by decide) (fun c9 => absurd (by decide) c9) (fun _ => ?_)
                                refine lv_iconst (v := 0) hx hb dX8_isLand_210 (by decide) ?_
                                exact wr_z (v := 0) hx hb hr hlocks hS (v70_0, g1_c76, v70_1, g3_c76, g4_c76) (by exact ⟨Or.inr (⟨rfl, show (tpA (tbr tbf le.toInt) le.toInt fu.toInt pp.toInt).1.1 = 1 ∧ (tpA (tbr tbf le.toInt) le.toInt fu.toInt pp.toInt).1.2.1 = v70_0.toInt ∧ (tpA (tbr tbf le.toInt) le.toInt fu.toInt pp.toInt).1.2.2.1 = v70_1.toInt from tfa_1 (by rw [← q0_c76]; exact tpq_x (by omega) (by omega) (by omega) (by omega) (by omega) (by omega) (by omega) (by omega) (by omega))⟩), show FRM (1596) (1653) sf g4_c76 from hf_c76, show 0 ≤ (g1_c76 : Int32).toInt ∧ (g1_c76 : Int32).toInt ≤ 120 from by omega, show 0 ≤ (v70_1 : Int32).toInt ∧ (v70_1 : Int32).toInt ≤ 120 from by omega, ha_g4_c76⟩) (hP.sub [2, 0, 1] rfl) (hD.sub [2, 0, 1] (by decide) rfl) dX8_isLand_211 rfl
                            · have f_69 : ¬ r_56.toInt ≤ 0 := zi_nle c_69
                              refine lv_aload_n hx hb dX8_isLand_171 rfl (lv_at hl 3 rfl) ?_
                              refine va_get (D := D) (ci := 7) (v := .ref sl) (C := RX8) (T := TX8) (N := 16) hx hb hts (fun _ h => List.mem_cons_of_mem _ (List.mem_append_right _ h)) hown hK hP 1 rfl rfl 0 (by decide) (hts (.fieldLink RX8 7 "WinterWalkModel" "slot" "[I") (List.mem_of_getElem? (i := 2) rfl)) (fun _ h9 => h9) rfl dX8_isLand_172 ?_
                              refine lv_sipush (v := 1597) hx hb dX8_isLand_175 (by decide) ?_
                              refine va_iald hx hb hK hP 0 0 rfl rfl (zi_in (by decide) (by decide)) dX8_isLand_178 ?_
                              refine lv_topi (fun x_71 ex_71 => ?_)
                              have f_71 : 0 ≤ x_71.toInt ∧ x_71.toInt ≤ 8 := by rw [ex_71]; exact si_v ha_g4_c76 (s := 28) (by decide) (by omega)
                              have u_71 : x_71.toInt = (ur g4_c76).1 := by rw [ex_71]; exact ux_v
                              refine lv_if_le (tgt := 194) hx hb dX8_isLand_179 (by decide) (fun c_72 => ?_) (fun c_72 => ?_)
                              · have f_72 : (ur g4_c76).1 ≤ 0 := by
                                  have h8 := zi_le c_72
                                  try rw [u_71] at h8
                                  exact h8
                                refine lv_aload_n hx hb dX8_isLand_194 rfl (lv_at hl 3 rfl) ?_
                                refine lv_iconst (v := 1) hx hb dX8_isLand_195 (by decide) ?_
                                refine lv_aload_n hx hb dX8_isLand_196 rfl (lv_at hl 3 rfl) ?_
                                refine va_get (D := D) (ci := 7) (v := .int g1_c76) (C := RX8) (T := TX8) (N := 16) hx hb hts (fun _ h => List.mem_cons_of_mem _ (List.mem_append_right _ h)) hown hK hP 1 rfl rfl 10 (by decide) (hts (.fieldLink RX8 62 "WinterWalkModel" "at" "I") (List.mem_of_getElem? (i := 1) rfl)) (fun _ h9 => h9) rfl dX8_isLand_197 ?_
                                have k_73 := (p_X8_fails l D cI cB cQ H.size h sl zs ln ir tk tb tr fz na su le g0_c76 g1_c76 g2_c76 tc g3_c76 1 g1_c76 (by omega) (by omega))
                                refine wc_i (WC := [(h, .inr (7, [.ref sl, .int na, .ref zs, .ref ln, .ref ir, .ref tk, .int su, .int le, .ref tb, .int g0_c76, .int g1_c76, .int g2_c76, .ref tr, .int tc, .ref fz, .int g3_c76]))]) (WR := [(sl, .inl (cI, 1653, .inl g4_c76)), (tb, .inl (cB, 120, .inl tbf))]) (va_runV (As := [.int 1, .int g1_c76]) (rest := []) ⟨hx, hb, hml, hown, hts⟩ k_73 (cwV 2 hts gX8_isLand_X8_fails rfl rfl rfl (by decide +kernel) ⟨Nat.le_of_ble_eq_true rfl, Nat.le_of_ble_eq_true rfl⟩) (wp_V hP hK hD hN [1] (by decide) rfl (ci := 7) rfl rfl) rfl rfl hl.1 rfl (lv_room (Nat.le_of_ble_eq_true rfl)) dX8_isLand_200 ⟨Nat.le_of_ble_eq_true rfl, Nat.le_of_ble_eq_true rfl⟩) hP hD hS hA [1] [0, 2] rfl rfl (by decide) (by decide) (fun r_73 => pe2 (fun v73_0 v73_1 H locs hw_73 hP hD hS => ?_))
                                clear k_73
                                have hP : va_P D kl [(sl, .inl (cI, 1653, .inl g4_c76)), (tb, .inl (cB, 120, .inl tbf)), (h, .inr (7, [.ref sl, .int na, .ref zs, .ref ln, .ref ir, .ref tk, .int su, .int le, .ref tb, .int v73_0, .int g1_c76, .int v73_1, .ref tr, .int tc, .ref fz, .int g3_c76]))] H := hP
                                have hD : va_D A [(sl, .inl (cI, 1653, .inl g4_c76)), (tb, .inl (cB, 120, .inl tbf)), (h, .inr (7, [.ref sl, .int na, .ref zs, .ref ln, .ref ir, .ref tk, .int su, .int le, .ref tb, .int v73_0, .int g1_c76, .int v73_1, .ref tr, .int tc, .ref fz, .int g3_c76]))] := hD
                                obtain ⟨c73_0, c73_1, c73_2⟩ := hw_73
                                have c73_1 : v73_0.toInt = (1 : Int) ∧ v73_1.toInt = g1_c76.toInt := c73_1
                                have c73_2 : 0 ≤ v73_1.toInt ∧ v73_1.toInt ≤ 120 := c73_2
                                have e_73 := c73_0
                                · subst e_73
                                  refine lv_istore (lv' := [(4, .int 0), (3, .int r_56), (2, .int r_55), (1, .int t1_c76), (0, .ref h)]) hx hb dX8_isLand_203 hl (by decide) rfl (fun ls hl => ?_)
                                  refine lv_iload hx hb dX8_isLand_205 (lv_at hl 0 rfl) ?_
                                  refine lv_if_ne (tgt := 212) hx hb dX8_isLand_207 (by decide) (fun c9 => absurd (by decide) c9) (fun _ => ?_)
                                  refine lv_iconst (v := 0) hx hb dX8_isLand_210 (by decide) ?_
                                  exact wr_z (v := 0) hx hb hr hlocks hS (v73_0, g1_c76, v73_1, g3_c76, g4_c76) (by exact ⟨Or.inr (⟨rfl, show (tpA (tbr tbf le.toInt) le.toInt fu.toInt pp.toInt).1.1 = 1 ∧ (tpA (tbr tbf le.toInt) le.toInt fu.toInt pp.toInt).1.2.1 = v73_0.toInt ∧ (tpA (tbr tbf le.toInt) le.toInt fu.toInt pp.toInt).1.2.2.1 = v73_1.toInt from tfa_1 (by rw [← q0_c76]; exact tpq_x (by omega) (by omega) (by omega) (by omega) (by omega) (by omega) (by omega) (by omega) (by omega))⟩), show FRM (1596) (1653) sf g4_c76 from hf_c76, show 0 ≤ (g1_c76 : Int32).toInt ∧ (g1_c76 : Int32).toInt ≤ 120 from by omega, show 0 ≤ (v73_1 : Int32).toInt ∧ (v73_1 : Int32).toInt ≤ 120 from by omega, ha_g4_c76⟩) (hP.sub [2, 0, 1] rfl) (hD.sub [2, 0, 1] (by decide) rfl) dX8_isLand_211 rfl
                              · have f_72 : ¬ (ur g4_c76).1 ≤ 0 := by
                                  have h8 := zi_nle c_72
                                  try rw [u_71] at h8
                                  exact h8
                                refine lv_iconst (v := 2) hx hb dX8_isLand_182 (by decide) ?_
                                refine lv_istore_n (lv' := [(1, .int 2), (3, .int r_56), (2, .int r_55), (0, .ref h)]) hx hb dX8_isLand_183 rfl hl (by decide) rfl (fun ls hl => ?_)
                                refine lv_aload_n hx hb dX8_isLand_184 rfl (lv_at hl 3 rfl) ?_
                                refine lv_iload_n hx hb dX8_isLand_185 rfl (lv_at hl 2 rfl) ?_
                                have k_74 := (p_X8_isWalker l D cI cB cQ H.size h sl zs ln ir tk tb tr fz na su le g0_c76 g1_c76 g2_c76 tc g3_c76 r_55 g4_c76 tbf v0 ha_g4_c76 (by omega) (by omega) (by omega) (by omega) (by omega) (by omega) (by omega))
                                refine wc_i (WC := [(h, .inr (7, [.ref sl, .int na, .ref zs, .ref ln, .ref ir, .ref tk, .int su, .int le, .ref tb, .int g0_c76, .int g1_c76, .int g2_c76, .ref tr, .int tc, .ref fz, .int g3_c76])), (sl, .inl (cI, 1653, .inl g4_c76)), (tb, .inl (cB, 120, .inl tbf))]) (WR := []) (va_runV (As := [.int r_55]) (rest := []) ⟨hx, hb, hml, hown, hts⟩ k_74 (cwV 1 hts gX8_isLand_X8_isWalker rfl rfl rfl (by decide +kernel) ⟨Nat.le_of_ble_eq_true rfl, Nat.le_of_ble_eq_true rfl⟩) (wp_V hP hK hD hN [1, 0, 2] (by decide) rfl (ci := 7) rfl rfl) rfl rfl hl.1 rfl (lv_room (Nat.le_of_ble_eq_true rfl)) dX8_isLand_186 ⟨Nat.le_of_ble_eq_true rfl, Nat.le_of_ble_eq_true rfl⟩) hP hD hS hA [1, 0, 2] [] rfl rfl (by decide) (by decide) (fun r_74 => pe5 (fun v74_0 v74_1 v74_2 v74_3 v74_4 H locs hw_74 hP hD hS => ?_))
                                clear k_74
                                have hP : va_P D kl [(h, .inr (7, [.ref sl, .int na, .ref zs, .ref ln, .ref ir, .ref tk, .int su, .int le, .ref tb, .int v74_0, .int v74_1, .int v74_2, .ref tr, .int tc, .ref fz, .int v74_3])), (sl, .inl (cI, 1653, .inl v74_4)), (tb, .inl (cB, 120, .inl tbf))] H := hP
                                have hD : va_D A [(h, .inr (7, [.ref sl, .int na, .ref zs, .ref ln, .ref ir, .ref tk, .int su, .int le, .ref tb, .int v74_0, .int v74_1, .int v74_2, .ref tr, .int tc, .ref fz, .int v74_3])), (sl, .inl (cI, 1653, .inl v74_4)), (tb, .inl (cB, 120, .inl tbf))] := hD
                                obtain ⟨c74_0, c74_1, c74_2, c74_3, c74_4, c74_5⟩ := hw_74
                                have c74_1 : (g1_c76.toInt ≤ v74_1.toInt) := c74_1
                                have c74_2 : FRM (1596) (1653) g4_c76 v74_4 := c74_2
                                have c74_3 : 0 ≤ v74_1.toInt ∧ v74_1.toInt ≤ 120 := c74_3
                                have c74_4 : 0 ≤ v74_2.toInt ∧ v74_2.toInt ≤ 120 := c74_4
                                have c74_5 : SI v74_4 v0 := c74_5
                                have hf_74 : FRM (1596) (1653) sf v74_4 := FRM.trans hf_c76 (FRM.sub c74_2 (by omega) (by omega))
                                rcases c74_0 with ⟨e_74, f_74⟩ | ⟨e_74, f_74⟩
                                · subst e_74
                                  have f_74 : ((((0, v74_0.toInt, v74_2.toInt, v74_1.toInt) : TPS), ur v74_4) : TPT) = tpW (tbr tbf le.toInt) ((0, g0_c76.toInt, g2_c76.toInt, g1_c76.toInt), ur g4_c76) ∧ g1_c76.toInt < v74_1.toInt ∧ (ur v74_4).1 = (ur g4_c76).1 ∧ (ur v74_4).2.1 = (ur g4_c76).2.1 := f_74
                                  refine lv_istore (lv' := [(4, .int 1), (1, .int 2), (3, .int r_56), (2, .int r_55), (0, .ref h)]) hx hb dX8_isLand_189 hl (by decide) rfl (fun ls hl => ?_)
                                  refine lv_goto (tgt := 205) hx hb dX8_isLand_191 (by decide) ?_
                                  refine lv_iload hx hb dX8_isLand_205 (lv_at hl 0 rfl) ?_
                                  refine lv_if_ne (tgt := 212) hx hb dX8_isLand_207 (by decide) (fun _ => ?_) (fun c9 => absurd c9 (by decide))
                                  refine lv_goto (tgt := 76) hx hb dX8_isLand_212 (by decide) ?_
                                  exact ih76 2 v74_0 v74_1 v74_2 v74_3 v74_4 _ _ _ (show 0 ≤ 2 ∧ 2 ≤ 2 from by omega) (show 0 ≤ v74_1.toInt ∧ v74_1.toInt ≤ 120 from by omega) (show 0 ≤ v74_2.toInt ∧ v74_2.toInt ≤ 120 from by omega) c74_5 (show 2 = 0 ∨ 1 ≤ (ur v74_4).1 from by omega) (show 0 ≤ (ur v74_4).1 from by omega) (show 0 ≤ (ur v74_4).2.1 ∧ (ur v74_4).2.1 ≤ 12 from by omega) (tpq_back q0_c76 (tpq_W (fun p hp => tbr_hi hp) (by omega) (by omega) (by omega) (by omega) (by omega)) f_74.1 (by first | omega | decide)) hf_74 (by omega) (hP.sub [1, 0, 2] rfl) (hD.sub [1, 0, 2] (by decide) rfl) hS (lv_sub hl [1, 4] rfl)
                                · subst e_74
                                  have f_74 : tfa (tpW (tbr tbf le.toInt) ((0, g0_c76.toInt, g2_c76.toInt, g1_c76.toInt), ur g4_c76)).1 v74_0.toInt v74_2.toInt := f_74
                                  refine lv_istore (lv' := [(4, .int 0), (1, .int 2), (3, .int r_56), (2, .int r_55), (0, .ref h)]) hx hb dX8_isLand_189 hl (by decide) rfl (fun ls hl => ?_)
                                  refine lv_goto (tgt := 205) hx hb dX8_isLand_191 (by decide) ?_
                                  refine lv_iload hx hb dX8_isLand_205 (lv_at hl 0 rfl) ?_
                                  refine lv_if_ne (tgt := 212) hx hb dX8_isLand_207 (by decide) (fun c9 => absurd (by decide) c9) (fun _ => ?_)
                                  refine lv_iconst (v := 0) hx hb dX8_isLand_210 (by decide) ?_
                                  exact wr_z (v := 0) hx hb hr hlocks hS (v74_0, v74_1, v74_2, v74_3, v74_4) (by exact ⟨Or.inr (⟨rfl, show (tpA (tbr tbf le.toInt) le.toInt fu.toInt pp.toInt).1.1 = 1 ∧ (tpA (tbr tbf le.toInt) le.toInt fu.toInt pp.toInt).1.2.1 = v74_0.toInt ∧ (tpA (tbr tbf le.toInt) le.toInt fu.toInt pp.toInt).1.2.2.1 = v74_2.toInt from tfa_1 (tpq_fb q0_c76 (tpq_W (fun p hp => tbr_hi hp) (by omega) (by omega) (by omega) (by omega) (by omega)) f_74)⟩), show FRM (1596) (1653) sf v74_4 from hf_74, show 0 ≤ (v74_1 : Int32).toInt ∧ (v74_1 : Int32).toInt ≤ 120 from by omega, show 0 ≤ (v74_2 : Int32).toInt ∧ (v74_2 : Int32).toInt ≤ 120 from by omega, c74_5⟩) (hP.sub [0, 1, 2] rfl) (hD.sub [0, 1, 2] (by decide) rfl) dX8_isLand_211 rfl
                          · have f_68 : r_55.toInt = 114 := zi_eq c_68
                            refine lv_iload_n hx hb dX8_isLand_140 rfl (lv_at hl 2 rfl) ?_
                            refine lv_iconst (v := 2) hx hb dX8_isLand_141 (by decide) ?_
                            refine lv_icmp_ge (tgt := 167) hx hb dX8_isLand_142 (by decide) (fun c_75 => ?_) (fun c_75 => ?_)
                            · have f_75 : 2 ≤ t1_c76.toInt := zi_le c_75
                              refine lv_iload_n hx hb dX8_isLand_167 rfl (lv_at hl 0 rfl) ?_
                              refine lv_if_le (tgt := 194) hx hb dX8_isLand_168 (by decide) (fun c_76 => ?_) (fun c_76 => ?_)
                              · have f_76 : r_56.toInt ≤ 0 := zi_le c_76
                                refine lv_aload_n hx hb dX8_isLand_194 rfl (lv_at hl 3 rfl) ?_
                                refine lv_iconst (v := 1) hx hb dX8_isLand_195 (by decide) ?_
                                refine lv_aload_n hx hb dX8_isLand_196 rfl (lv_at hl 3 rfl) ?_
                                refine va_get (D := D) (ci := 7) (v := .int g1_c76) (C := RX8) (T := TX8) (N := 16) hx hb hts (fun _ h => List.mem_cons_of_mem _ (List.mem_append_right _ h)) hown hK hP 1 rfl rfl 10 (by decide) (hts (.fieldLink RX8 62 "WinterWalkModel" "at" "I") (List.mem_of_getElem? (i := 1) rfl)) (fun _ h9 => h9) rfl dX8_isLand_197 ?_
                                have k_77 := (p_X8_fails l D cI cB cQ H.size h sl zs ln ir tk tb tr fz na su le g0_c76 g1_c76 g2_c76 tc g3_c76 1 g1_c76 (by omega) (by omega))
                                refine wc_i (WC := [(h, .inr (7, [.ref sl, .int na, .ref zs, .ref ln, .ref ir, .ref tk, .int su, .int le, .ref tb, .int g0_c76, .int g1_c76, .int g2_c76, .ref tr, .int tc, .ref fz, .int g3_c76]))]) (WR := [(sl, .inl (cI, 1653, .inl g4_c76)), (tb, .inl (cB, 120, .inl tbf))]) (va_runV (As := [.int 1, .int g1_c76]) (rest := []) ⟨hx, hb, hml, hown, hts⟩ k_77 (cwV 2 hts gX8_isLand_X8_fails rfl rfl rfl (by decide +kernel) ⟨Nat.le_of_ble_eq_true rfl, Nat.le_of_ble_eq_true rfl⟩) (wp_V hP hK hD hN [1] (by decide) rfl (ci := 7) rfl rfl) rfl rfl hl.1 rfl (lv_room (Nat.le_of_ble_eq_true rfl)) dX8_isLand_200 ⟨Nat.le_of_ble_eq_true rfl, Nat.le_of_ble_eq_true rfl⟩) hP hD hS hA [1] [0, 2] rfl rfl (by decide) (by decide) (fun r_77 => pe2 (fun v77_0 v77_1 H locs hw_77 hP hD hS => ?_))
                                clear k_77
                                have hP : va_P D kl [(sl, .inl (cI, 1653, .inl g4_c76)), (tb, .inl (cB, 120, .inl tbf)), (h, .inr (7, [.ref sl, .int na, .ref zs, .ref ln, .ref ir, .ref tk, .int su, .int le, .ref tb, .int v77_0, .int g1_c76, .int v77_1, .ref tr, .int tc, .ref fz, .int g3_c76]))] H := hP
                                have hD : va_D A [(sl, .inl (cI, 1653, .inl g4_c76)), (tb, .inl (cB, 120, .inl tbf)), (h, .inr (7, [.ref sl, .int na, .ref zs, .ref ln, .ref ir, .ref tk, .int su, .int le, .ref tb, .int v77_0, .int g1_c76, .int v77_1, .ref tr, .int tc, .ref fz, .int g3_c76]))] := hD
                                obtain ⟨c77_0, c77_1, c77_2⟩ := hw_77
                                have c77_1 : v77_0.toInt = (1 : Int) ∧ v77_1.toInt = g1_c76.toInt := c77_1
                                have c77_2 : 0 ≤ v77_1.toInt ∧ v77_1.toInt ≤ 120 := c77_2
                                have e_77 := c77_0
                                · subst e_77
                                  refine lv_istore (lv' := [(4, .int 0), (3, .int r_56), (2, .int r_55), (1, .int t1_c76), (0, .ref h)]) hx hb dX8_isLand_203 hl (by decide) rfl (fun ls hl => ?_)
                                  refine lv_iload hx hb dX8_isLand_205 (lv_at hl 0 rfl) ?_
                                  refine lv_if_ne (tgt := 212) hx hb dX8_isLand_207 (by decide) (fun c9 => absurd (by decide) c9) (fun _ => ?_)
                                  refine lv_iconst (v := 0) hx hb dX8_isLand_210 (by decide) ?_
                                  exact wr_z (v := 0) hx hb hr hlocks hS (v77_0, g1_c76, v77_1, g3_c76, g4_c76) (by exact ⟨Or.inr (⟨rfl, show (tpA (tbr tbf le.toInt) le.toInt fu.toInt pp.toInt).1.1 = 1 ∧ (tpA (tbr tbf le.toInt) le.toInt fu.toInt pp.toInt).1.2.1 = v77_0.toInt ∧ (tpA (tbr tbf le.toInt) le.toInt fu.toInt pp.toInt).1.2.2.1 = v77_1.toInt from tfa_1 (by rw [← q0_c76]; exact tpq_x (by omega) (by omega) (by omega) (by omega) (by omega) (by omega) (by omega) (by omega) (by omega))⟩), show FRM (1596) (1653) sf g4_c76 from hf_c76, show 0 ≤ (g1_c76 : Int32).toInt ∧ (g1_c76 : Int32).toInt ≤ 120 from by omega, show 0 ≤ (v77_1 : Int32).toInt ∧ (v77_1 : Int32).toInt ≤ 120 from by omega, ha_g4_c76⟩) (hP.sub [2, 0, 1] rfl) (hD.sub [2, 0, 1] (by decide) rfl) dX8_isLand_211 rfl
                              · have f_76 : ¬ r_56.toInt ≤ 0 := zi_nle c_76
                                refine lv_aload_n hx hb dX8_isLand_171 rfl (lv_at hl 3 rfl) ?_
                                refine va_get (D := D) (ci := 7) (v := .ref sl) (C := RX8) (T := TX8) (N := 16) hx hb hts (fun _ h => List.mem_cons_of_mem _ (List.mem_append_right _ h)) hown hK hP 1 rfl rfl 0 (by decide) (hts (.fieldLink RX8 7 "WinterWalkModel" "slot" "[I") (List.mem_of_getElem? (i := 2) rfl)) (fun _ h9 => h9) rfl dX8_isLand_172 ?_
                                refine lv_sipush (v := 1597) hx hb dX8_isLand_175 (by decide) ?_
                                refine va_iald hx hb hK hP 0 0 rfl rfl (zi_in (by decide) (by decide)) dX8_isLand_178 ?_
                                refine lv_topi (fun x_78 ex_78 => ?_)
                                have f_78 : 0 ≤ x_78.toInt ∧ x_78.toInt ≤ 8 := by rw [ex_78]; exact si_v ha_g4_c76 (s := 28) (by decide) (by omega)
                                have u_78 : x_78.toInt = (ur g4_c76).1 := by rw [ex_78]; exact ux_v
                                refine lv_if_le (tgt := 194) hx hb dX8_isLand_179 (by decide) (fun c_79 => ?_) (fun c_79 => ?_)
                                · have f_79 : (ur g4_c76).1 ≤ 0 := by
                                    have h8 := zi_le c_79
                                    try rw [u_78] at h8
                                    exact h8
                                  refine lv_aload_n hx hb dX8_isLand_194 rfl (lv_at hl 3 rfl) ?_
                                  refine lv_iconst (v := 1) hx hb dX8_isLand_195 (by decide) ?_
                                  refine lv_aload_n hx hb dX8_isLand_196 rfl (lv_at hl 3 rfl) ?_
                                  refine va_get (D := D) (ci := 7) (v := .int g1_c76) (C := RX8) (T := TX8) (N := 16) hx hb hts (fun _ h => List.mem_cons_of_mem _ (List.mem_append_right _ h)) hown hK hP 1 rfl rfl 10 (by decide) (hts (.fieldLink RX8 62 "WinterWalkModel" "at" "I") (List.mem_of_getElem? (i := 1) rfl)) (fun _ h9 => h9) rfl dX8_isLand_197 ?_
                                  have k_80 := (p_X8_fails l D cI cB cQ H.size h sl zs ln ir tk tb tr fz na su le g0_c76 g1_c76 g2_c76 tc g3_c76 1 g1_c76 (by omega) (by omega))
                                  refine wc_i (WC := [(h, .inr (7, [.ref sl, .int na, .ref zs, .ref ln, .ref ir, .ref tk, .int su, .int le, .ref tb, .int g0_c76, .int g1_c76, .int g2_c76, .ref tr, .int tc, .ref fz, .int g3_c76]))]) (WR := [(sl, .inl (cI, 1653, .inl g4_c76)), (tb, .inl (cB, 120, .inl tbf))]) (va_runV (As := [.int 1, .int g1_c76]) (rest := []) ⟨hx, hb, hml, hown, hts⟩ k_80 (cwV 2 hts gX8_isLand_X8_fails rfl rfl rfl (by decide +kernel) ⟨Nat.le_of_ble_eq_true rfl, Nat.le_of_ble_eq_true rfl⟩) (wp_V hP hK hD hN [1] (by decide) rfl (ci := 7) rfl rfl) rfl rfl hl.1 rfl (lv_room (Nat.le_of_ble_eq_true rfl)) dX8_isLand_200 ⟨Nat.le_of_ble_eq_true rfl, Nat.le_of_ble_eq_true rfl⟩) hP hD hS hA [1] [0, 2] rfl rfl (by decide) (by decide) (fun r_80 => pe2 (fun v80_0 v80_1 H locs hw_80 hP hD hS => ?_))
                                  clear k_80
                                  have hP : va_P D kl [(sl, .inl (cI, 1653, .inl g4_c76)), (tb, .inl (cB, 120, .inl tbf)), (h, .inr (7, [.ref sl, .int na, .ref zs, .ref ln, .ref ir, .ref tk, .int su, .int le, .ref tb, .int v80_0, .int g1_c76, .int v80_1, .ref tr, .int tc, .ref fz, .int g3_c76]))] H := hP
                                  have hD : va_D A [(sl, .inl (cI, 1653, .inl g4_c76)), (tb, .inl (cB, 120, .inl tbf)), (h, .inr (7, [.ref sl, .int na, .ref zs, .ref ln, .ref ir, .ref tk, .int su, .int le, .ref tb, .int v80_0, .int g1_c76, .int v80_1, .ref tr, .int tc, .ref fz, .int g3_c76]))] := hD
                                  obtain ⟨c80_0, c80_1, c80_2⟩ := hw_80
                                  have c80_1 : v80_0.toInt = (1 : Int) ∧ v80_1.toInt = g1_c76.toInt := c80_1
                                  have c80_2 : 0 ≤ v80_1.toInt ∧ v80_1.toInt ≤ 120 := c80_2
                                  have e_80 := c80_0
                                  · subst e_80
                                    refine lv_istore (lv' := [(4, .int 0), (3, .int r_56), (2, .int r_55), (1, .int t1_c76), (0, .ref h)]) hx hb dX8_isLand_203 hl (by decide) rfl (fun ls hl => ?_)
                                    refine lv_iload hx hb dX8_isLand_205 (lv_at hl 0 rfl) ?_
                                    refine lv_if_ne (tgt := 212) hx hb dX8_isLand_207 (by decide) (fun c9 => absurd (by decide) c9) (fun _ => ?_)
                                    refine lv_iconst (v := 0) hx hb dX8_isLand_210 (by decide) ?_
                                    exact wr_z (v := 0) hx hb hr hlocks hS (v80_0, g1_c76, v80_1, g3_c76, g4_c76) (by exact ⟨Or.inr (⟨rfl, show (tpA (tbr tbf le.toInt) le.toInt fu.toInt pp.toInt).1.1 = 1 ∧ (tpA (tbr tbf le.toInt) le.toInt fu.toInt pp.toInt).1.2.1 = v80_0.toInt ∧ (tpA (tbr tbf le.toInt) le.toInt fu.toInt pp.toInt).1.2.2.1 = v80_1.toInt from tfa_1 (by rw [← q0_c76]; exact tpq_x (by omega) (by omega) (by omega) (by omega) (by omega) (by omega) (by omega) (by omega) (by omega))⟩), show FRM (1596) (1653) sf g4_c76 from hf_c76, show 0 ≤ (g1_c76 : Int32).toInt ∧ (g1_c76 : Int32).toInt ≤ 120 from by omega, show 0 ≤ (v80_1 : Int32).toInt ∧ (v80_1 : Int32).toInt ≤ 120 from by omega, ha_g4_c76⟩) (hP.sub [2, 0, 1] rfl) (hD.sub [2, 0, 1] (by decide) rfl) dX8_isLand_211 rfl
                                · have f_79 : ¬ (ur g4_c76).1 ≤ 0 := by
                                    have h8 := zi_nle c_79
                                    try rw [u_78] at h8
                                    exact h8
                                  refine lv_iconst (v := 2) hx hb dX8_isLand_182 (by decide) ?_
                                  refine lv_istore_n (lv' := [(1, .int 2), (3, .int r_56), (2, .int r_55), (0, .ref h)]) hx hb dX8_isLand_183 rfl hl (by decide) rfl (fun ls hl => ?_)
                                  refine lv_aload_n hx hb dX8_isLand_184 rfl (lv_at hl 3 rfl) ?_
                                  refine lv_iload_n hx hb dX8_isLand_185 rfl (lv_at hl 2 rfl) ?_
                                  have k_81 := (p_X8_isWalker l D cI cB cQ H.size h sl zs ln ir tk tb tr fz na su le g0_c76 g1_c76 g2_c76 tc g3_c76 r_55 g4_c76 tbf v0 ha_g4_c76 (by omega) (by omega) (by omega) (by omega) (by omega) (by omega) (by omega))
                                  refine wc_i (WC := [(h, .inr (7, [.ref sl, .int na, .ref zs, .ref ln, .ref ir, .ref tk, .int su, .int le, .ref tb, .int g0_c76, .int g1_c76, .int g2_c76, .ref tr, .int tc, .ref fz, .int g3_c76])), (sl, .inl (cI, 1653, .inl g4_c76)), (tb, .inl (cB, 120, .inl tbf))]) (WR := []) (va_runV (As := [.int r_55]) (rest := []) ⟨hx, hb, hml, hown, hts⟩ k_81 (cwV 1 hts gX8_isLand_X8_isWalker rfl rfl rfl (by decide +kernel) ⟨Nat.le_of_ble_eq_true rfl, Nat.le_of_ble_eq_true rfl⟩) (wp_V hP hK hD hN [1, 0, 2] (by decide) rfl (ci := 7) rfl rfl) rfl rfl hl.1 rfl (lv_room (Nat.le_of_ble_eq_true rfl)) dX8_isLand_186 ⟨Nat.le_of_ble_eq_true rfl, Nat.le_of_ble_eq_true rfl⟩) hP hD hS hA [1, 0, 2] [] rfl rfl (by decide) (by decide) (fun r_81 => pe5 (fun v81_0 v81_1 v81_2 v81_3 v81_4 H locs hw_81 hP hD hS => ?_))
                                  clear k_81
                                  have hP : va_P D kl [(h, .inr (7, [.ref sl, .int na, .ref zs, .ref ln, .ref ir, .ref tk, .int su, .int le, .ref tb, .int v81_0, .int v81_1, .int v81_2, .ref tr, .int tc, .ref fz, .int v81_3])), (sl, .inl (cI, 1653, .inl v81_4)), (tb, .inl (cB, 120, .inl tbf))] H := hP
                                  have hD : va_D A [(h, .inr (7, [.ref sl, .int na, .ref zs, .ref ln, .ref ir, .ref tk, .int su, .int le, .ref tb, .int v81_0, .int v81_1, .int v81_2, .ref tr, .int tc, .ref fz, .int v81_3])), (sl, .inl (cI, 1653, .inl v81_4)), (tb, .inl (cB, 120, .inl tbf))] := hD
                                  obtain ⟨c81_0, c81_1, c81_2, c81_3, c81_4, c81_5⟩ := hw_81
                                  have c81_1 : (g1_c76.toInt ≤ v81_1.toInt) := c81_1
                                  have c81_2 : FRM (1596) (1653) g4_c76 v81_4 := c81_2
                                  have c81_3 : 0 ≤ v81_1.toInt ∧ v81_1.toInt ≤ 120 := c81_3
                                  have c81_4 : 0 ≤ v81_2.toInt ∧ v81_2.toInt ≤ 120 := c81_4
                                  have c81_5 : SI v81_4 v0 := c81_5
                                  have hf_81 : FRM (1596) (1653) sf v81_4 := FRM.trans hf_c76 (FRM.sub c81_2 (by omega) (by omega))
                                  rcases c81_0 with ⟨e_81, f_81⟩ | ⟨e_81, f_81⟩
                                  · subst e_81
                                    have f_81 : ((((0, v81_0.toInt, v81_2.toInt, v81_1.toInt) : TPS), ur v81_4) : TPT) = tpW (tbr tbf le.toInt) ((0, g0_c76.toInt, g2_c76.toInt, g1_c76.toInt), ur g4_c76) ∧ g1_c76.toInt < v81_1.toInt ∧ (ur v81_4).1 = (ur g4_c76).1 ∧ (ur v81_4).2.1 = (ur g4_c76).2.1 := f_81
                                    refine lv_istore (lv' := [(4, .int 1), (1, .int 2), (3, .int r_56), (2, .int r_55), (0, .ref h)]) hx hb dX8_isLand_189 hl (by decide) rfl (fun ls hl => ?_)
                                    refine lv_goto (tgt := 205) hx hb dX8_isLand_191 (by decide) ?_
                                    refine lv_iload hx hb dX8_isLand_205 (lv_at hl 0 rfl) ?_
                                    refine lv_if_ne (tgt := 212) hx hb dX8_isLand_207 (by decide) (fun _ => ?_) (fun c9 => absurd c9 (by decide))
                                    refine lv_goto (tgt := 76) hx hb dX8_isLand_212 (by decide) ?_
                                    exact ih76 2 v81_0 v81_1 v81_2 v81_3 v81_4 _ _ _ (show 0 ≤ 2 ∧ 2 ≤ 2 from by omega) (show 0 ≤ v81_1.toInt ∧ v81_1.toInt ≤ 120 from by omega) (show 0 ≤ v81_2.toInt ∧ v81_2.toInt ≤ 120 from by omega) c81_5 (show 2 = 0 ∨ 1 ≤ (ur v81_4).1 from by omega) (show 0 ≤ (ur v81_4).1 from by omega) (show 0 ≤ (ur v81_4).2.1 ∧ (ur v81_4).2.1 ≤ 12 from by omega) (tpq_back q0_c76 (tpq_W (fun p hp => tbr_hi hp) (by omega) (by omega) (by omega) (by omega) (by omega)) f_81.1 (by first | omega | decide)) hf_81 (by omega) (hP.sub [1, 0, 2] rfl) (hD.sub [1, 0, 2] (by decide) rfl) hS (lv_sub hl [1, 4] rfl)
                                  · subst e_81
                                    have f_81 : tfa (tpW (tbr tbf le.toInt) ((0, g0_c76.toInt, g2_c76.toInt, g1_c76.toInt), ur g4_c76)).1 v81_0.toInt v81_2.toInt := f_81
                                    refine lv_istore (lv' := [(4, .int 0), (1, .int 2), (3, .int r_56), (2, .int r_55), (0, .ref h)]) hx hb dX8_isLand_189 hl (by decide) rfl (fun ls hl => ?_)
                                    refine lv_goto (tgt := 205) hx hb dX8_isLand_191 (by decide) ?_
                                    refine lv_iload hx hb dX8_isLand_205 (lv_at hl 0 rfl) ?_
                                    refine lv_if_ne (tgt := 212) hx hb dX8_isLand_207 (by decide) (fun c9 => absurd (by decide) c9) (fun _ => ?_)
                                    refine lv_iconst (v := 0) hx hb dX8_isLand_210 (by decide) ?_
                                    exact wr_z (v := 0) hx hb hr hlocks hS (v81_0, v81_1, v81_2, v81_3, v81_4) (by exact ⟨Or.inr (⟨rfl, show (tpA (tbr tbf le.toInt) le.toInt fu.toInt pp.toInt).1.1 = 1 ∧ (tpA (tbr tbf le.toInt) le.toInt fu.toInt pp.toInt).1.2.1 = v81_0.toInt ∧ (tpA (tbr tbf le.toInt) le.toInt fu.toInt pp.toInt).1.2.2.1 = v81_2.toInt from tfa_1 (tpq_fb q0_c76 (tpq_W (fun p hp => tbr_hi hp) (by omega) (by omega) (by omega) (by omega) (by omega)) f_81)⟩), show FRM (1596) (1653) sf v81_4 from hf_81, show 0 ≤ (v81_1 : Int32).toInt ∧ (v81_1 : Int32).toInt ≤ 120 from by omega, show 0 ≤ (v81_2 : Int32).toInt ∧ (v81_2 : Int32).toInt ≤ 120 from by omega, c81_5⟩) (hP.sub [0, 1, 2] rfl) (hD.sub [0, 1, 2] (by decide) rfl) dX8_isLand_211 rfl
                            · have f_75 : ¬ 2 ≤ t1_c76.toInt := zi_nle c_75
                              refine lv_aload_n hx hb dX8_isLand_145 rfl (lv_at hl 3 rfl) ?_
                              refine va_get (D := D) (ci := 7) (v := .ref sl) (C := RX8) (T := TX8) (N := 16) hx hb hts (fun _ h => List.mem_cons_of_mem _ (List.mem_append_right _ h)) hown hK hP 1 rfl rfl 0 (by decide) (hts (.fieldLink RX8 7 "WinterWalkModel" "slot" "[I") (List.mem_of_getElem? (i := 2) rfl)) (fun _ h9 => h9) rfl dX8_isLand_146 ?_
                              refine lv_sipush (v := 1597) hx hb dX8_isLand_149 (by decide) ?_
                              refine va_iald hx hb hK hP 0 0 rfl rfl (zi_in (by decide) (by decide)) dX8_isLand_152 ?_
                              refine lv_topi (fun x_82 ex_82 => ?_)
                              have f_82 : 0 ≤ x_82.toInt ∧ x_82.toInt ≤ 8 := by rw [ex_82]; exact si_v ha_g4_c76 (s := 28) (by decide) (by omega)
                              have u_82 : x_82.toInt = (ur g4_c76).1 := by rw [ex_82]; exact ux_v
                              refine lv_if_le (tgt := 167) hx hb dX8_isLand_153 (by decide) (fun c_83 => ?_) (fun c_83 => ?_)
                              · have f_83 : (ur g4_c76).1 ≤ 0 := by
                                  have h8 := zi_le c_83
                                  try rw [u_82] at h8
                                  exact h8
                                refine lv_iload_n hx hb dX8_isLand_167 rfl (lv_at hl 0 rfl) ?_
                                refine lv_if_le (tgt := 194) hx hb dX8_isLand_168 (by decide) (fun c_84 => ?_) (fun c_84 => ?_)
                                · have f_84 : r_56.toInt ≤ 0 := zi_le c_84
                                  refine lv_aload_n hx hb dX8_isLand_194 rfl (lv_at hl 3 rfl) ?_
                                  refine lv_iconst (v := 1) hx hb dX8_isLand_195 (by decide) ?_
                                  refine lv_aload_n hx hb dX8_isLand_196 rfl (lv_at hl 3 rfl) ?_
                                  refine va_get (D := D) (ci := 7) (v := .int g1_c76) (C := RX8) (T := TX8) (N := 16) hx hb hts (fun _ h => List.mem_cons_of_mem _ (List.mem_append_right _ h)) hown hK hP 1 rfl rfl 10 (by decide) (hts (.fieldLink RX8 62 "WinterWalkModel" "at" "I") (List.mem_of_getElem? (i := 1) rfl)) (fun _ h9 => h9) rfl dX8_isLand_197 ?_
                                  have k_85 := (p_X8_fails l D cI cB cQ H.size h sl zs ln ir tk tb tr fz na su le g0_c76 g1_c76 g2_c76 tc g3_c76 1 g1_c76 (by omega) (by omega))
                                  refine wc_i (WC := [(h, .inr (7, [.ref sl, .int na, .ref zs, .ref ln, .ref ir, .ref tk, .int su, .int le, .ref tb, .int g0_c76, .int g1_c76, .int g2_c76, .ref tr, .int tc, .ref fz, .int g3_c76]))]) (WR := [(sl, .inl (cI, 1653, .inl g4_c76)), (tb, .inl (cB, 120, .inl tbf))]) (va_runV (As := [.int 1, .int g1_c76]) (rest := []) ⟨hx, hb, hml, hown, hts⟩ k_85 (cwV 2 hts gX8_isLand_X8_fails rfl rfl rfl (by decide +kernel) ⟨Nat.le_of_ble_eq_true rfl, Nat.le_of_ble_eq_true rfl⟩) (wp_V hP hK hD hN [1] (by decide) rfl (ci := 7) rfl rfl) rfl rfl hl.1 rfl (lv_room (Nat.le_of_ble_eq_true rfl)) dX8_isLand_200 ⟨Nat.le_of_ble_eq_true rfl, Nat.le_of_ble_eq_true rfl⟩) hP hD hS hA [1] [0, 2] rfl rfl (by decide) (by decide) (fun r_85 => pe2 (fun v85_0 v85_1 H locs hw_85 hP hD hS => ?_))
                                  clear k_85
                                  have hP : va_P D kl [(sl, .inl (cI, 1653, .inl g4_c76)), (tb, .inl (cB, 120, .inl tbf)), (h, .inr (7, [.ref sl, .int na, .ref zs, .ref ln, .ref ir, .ref tk, .int su, .int le, .ref tb, .int v85_0, .int g1_c76, .int v85_1, .ref tr, .int tc, .ref fz, .int g3_c76]))] H := hP
                                  have hD : va_D A [(sl, .inl (cI, 1653, .inl g4_c76)), (tb, .inl (cB, 120, .inl tbf)), (h, .inr (7, [.ref sl, .int na, .ref zs, .ref ln, .ref ir, .ref tk, .int su, .int le, .ref tb, .int v85_0, .int g1_c76, .int v85_1, .ref tr, .int tc, .ref fz, .int g3_c76]))] := hD
                                  obtain ⟨c85_0, c85_1, c85_2⟩ := hw_85
                                  have c85_1 : v85_0.toInt = (1 : Int) ∧ v85_1.toInt = g1_c76.toInt := c85_1
                                  have c85_2 : 0 ≤ v85_1.toInt ∧ v85_1.toInt ≤ 120 := c85_2
                                  have e_85 := c85_0
                                  · subst e_85
                                    refine lv_istore (lv' := [(4, .int 0), (3, .int r_56), (2, .int r_55), (1, .int t1_c76), (0, .ref h)]) hx hb dX8_isLand_203 hl (by decide) rfl (fun ls hl => ?_)
                                    refine lv_iload hx hb dX8_isLand_205 (lv_at hl 0 rfl) ?_
                                    refine lv_if_ne (tgt := 212) hx hb dX8_isLand_207 (by decide) (fun c9 => absurd (by decide) c9) (fun _ => ?_)
                                    refine lv_iconst (v := 0) hx hb dX8_isLand_210 (by decide) ?_
                                    exact wr_z (v := 0) hx hb hr hlocks hS (v85_0, g1_c76, v85_1, g3_c76, g4_c76) (by exact ⟨Or.inr (⟨rfl, show (tpA (tbr tbf le.toInt) le.toInt fu.toInt pp.toInt).1.1 = 1 ∧ (tpA (tbr tbf le.toInt) le.toInt fu.toInt pp.toInt).1.2.1 = v85_0.toInt ∧ (tpA (tbr tbf le.toInt) le.toInt fu.toInt pp.toInt).1.2.2.1 = v85_1.toInt from tfa_1 (by rw [← q0_c76]; exact tpq_x (by omega) (by omega) (by omega) (by omega) (by omega) (by omega) (by omega) (by omega) (by omega))⟩), show FRM (1596) (1653) sf g4_c76 from hf_c76, show 0 ≤ (g1_c76 : Int32).toInt ∧ (g1_c76 : Int32).toInt ≤ 120 from by omega, show 0 ≤ (v85_1 : Int32).toInt ∧ (v85_1 : Int32).toInt ≤ 120 from by omega, ha_g4_c76⟩) (hP.sub [2, 0, 1] rfl) (hD.sub [2, 0, 1] (by decide) rfl) dX8_isLand_211 rfl
                                · have f_84 : ¬ r_56.toInt ≤ 0 := zi_nle c_84
                                  refine lv_aload_n hx hb dX8_isLand_171 rfl (lv_at hl 3 rfl) ?_
                                  refine va_get (D := D) (ci := 7) (v := .ref sl) (C := RX8) (T := TX8) (N := 16) hx hb hts (fun _ h => List.mem_cons_of_mem _ (List.mem_append_right _ h)) hown hK hP 1 rfl rfl 0 (by decide) (hts (.fieldLink RX8 7 "WinterWalkModel" "slot" "[I") (List.mem_of_getElem? (i := 2) rfl)) (fun _ h9 => h9) rfl dX8_isLand_172 ?_
                                  refine lv_sipush (v := 1597) hx hb dX8_isLand_175 (by decide) ?_
                                  refine va_iald hx hb hK hP 0 0 rfl rfl (zi_in (by decide) (by decide)) dX8_isLand_178 ?_
                                  refine lv_topi (fun x_86 ex_86 => ?_)
                                  have f_86 : 0 ≤ x_86.toInt ∧ x_86.toInt ≤ 8 := by rw [ex_86]; exact si_v ha_g4_c76 (s := 28) (by decide) (by omega)
                                  have u_86 : x_86.toInt = (ur g4_c76).1 := by rw [ex_86]; exact ux_v
                                  refine lv_if_le (tgt := 194) hx hb dX8_isLand_179 (by decide) (fun c_87 => ?_) (fun c_87 => ?_)
                                  · have f_87 : (ur g4_c76).1 ≤ 0 := by
                                      have h8 := zi_le c_87
                                      try rw [u_86] at h8
                                      exact h8
                                    refine lv_aload_n hx hb dX8_isLand_194 rfl (lv_at hl 3 rfl) ?_
                                    refine lv_iconst (v := 1) hx hb dX8_isLand_195 (by decide) ?_
                                    refine lv_aload_n hx hb dX8_isLand_196 rfl (lv_at hl 3 rfl) ?_
                                    refine va_get (D := D) (ci := 7) (v := .int g1_c76) (C := RX8) (T := TX8) (N := 16) hx hb hts (fun _ h => List.mem_cons_of_mem _ (List.mem_append_right _ h)) hown hK hP 1 rfl rfl 10 (by decide) (hts (.fieldLink RX8 62 "WinterWalkModel" "at" "I") (List.mem_of_getElem? (i := 1) rfl)) (fun _ h9 => h9) rfl dX8_isLand_197 ?_
                                    have k_88 := (p_X8_fails l D cI cB cQ H.size h sl zs ln ir tk tb tr fz na su le g0_c76 g1_c76 g2_c76 tc g3_c76 1 g1_c76 (by omega) (by omega))
                                    refine wc_i (WC := [(h, .inr (7, [.ref sl, .int na, .ref zs, .ref ln, .ref ir, .ref tk, .int su, .int le, .ref tb, .int g0_c76, .int g1_c76, .int g2_c76, .ref tr, .int tc, .ref fz, .int g3_c76]))]) (WR := [(sl, .inl (cI, 1653, .inl g4_c76)), (tb, .inl (cB, 120, .inl tbf))]) (va_runV (As := [.int 1, .int g1_c76]) (rest := []) ⟨hx, hb, hml, hown, hts⟩ k_88 (cwV 2 hts gX8_isLand_X8_fails rfl rfl rfl (by decide +kernel) ⟨Nat.le_of_ble_eq_true rfl, Nat.le_of_ble_eq_true rfl⟩) (wp_V hP hK hD hN [1] (by decide) rfl (ci := 7) rfl rfl) rfl rfl hl.1 rfl (lv_room (Nat.le_of_ble_eq_true rfl)) dX8_isLand_200 ⟨Nat.le_of_ble_eq_true rfl, Nat.le_of_ble_eq_true rfl⟩) hP hD hS hA [1] [0, 2] rfl rfl (by decide) (by decide) (fun r_88 => pe2 (fun v88_0 v88_1 H locs hw_88 hP hD hS => ?_))
                                    clear k_88
                                    have hP : va_P D kl [(sl, .inl (cI, 1653, .inl g4_c76)), (tb, .inl (cB, 120, .inl tbf)), (h, .inr (7, [.ref sl, .int na, .ref zs, .ref ln, .ref ir, .ref tk, .int su, .int le, .ref tb, .int v88_0, .int g1_c76, .int v88_1, .ref tr, .int tc, .ref fz, .int g3_c76]))] H := hP
                                    have hD : va_D A [(sl, .inl (cI, 1653, .inl g4_c76)), (tb, .inl (cB, 120, .inl tbf)), (h, .inr (7, [.ref sl, .int na, .ref zs, .ref ln, .ref ir, .ref tk, .int su, .int le, .ref tb, .int v88_0, .int g1_c76, .int v88_1, .ref tr, .int tc, .ref fz, .int g3_c76]))] := hD
                                    obtain ⟨c88_0, c88_1, c88_2⟩ := hw_88
                                    have c88_1 : v88_0.toInt = (1 : Int) ∧ v88_1.toInt = g1_c76.toInt := c88_1
                                    have c88_2 : 0 ≤ v88_1.toInt ∧ v88_1.toInt ≤ 120 := c88_2
                                    have e_88 := c88_0
                                    · subst e_88
                                      refine lv_istore (lv' := [(4, .int 0), (3, .int r_56), (2, .int r_55), (1, .int t1_c76), (0, .ref h)]) hx hb dX8_isLand_203 hl (by decide) rfl (fun ls hl => ?_)
                                      refine lv_iload hx hb dX8_isLand_205 (lv_at hl 0 rfl) ?_
                                      refine lv_if_ne (tgt := 212) hx hb dX8_isLand_207 (by decide) (fun c9 => absurd (by decide) c9) (fun _ => ?_)
                                      refine lv_iconst (v := 0) hx hb dX8_isLand_210 (by decide) ?_
                                      exact wr_z (v := 0) hx hb hr hlocks hS (v88_0, g1_c76, v88_1, g3_c76, g4_c76) (by exact ⟨Or.inr (⟨rfl, show (tpA (tbr tbf le.toInt) le.toInt fu.toInt pp.toInt).1.1 = 1 ∧ (tpA (tbr tbf le.toInt) le.toInt fu.toInt pp.toInt).1.2.1 = v88_0.toInt ∧ (tpA (tbr tbf le.toInt) le.toInt fu.toInt pp.toInt).1.2.2.1 = v88_1.toInt from tfa_1 (by rw [← q0_c76]; exact tpq_x (by omega) (by omega) (by omega) (by omega) (by omega) (by omega) (by omega) (by omega) (by omega))⟩), show FRM (1596) (1653) sf g4_c76 from hf_c76, show 0 ≤ (g1_c76 : Int32).toInt ∧ (g1_c76 : Int32).toInt ≤ 120 from by omega, show 0 ≤ (v88_1 : Int32).toInt ∧ (v88_1 : Int32).toInt ≤ 120 from by omega, ha_g4_c76⟩) (hP.sub [2, 0, 1] rfl) (hD.sub [2, 0, 1] (by decide) rfl) dX8_isLand_211 rfl
                                  · have f_87 : ¬ (ur g4_c76).1 ≤ 0 := by
                                      have h8 := zi_nle c_87
                                      try rw [u_86] at h8
                                      exact h8
                                    refine lv_iconst (v := 2) hx hb dX8_isLand_182 (by decide) ?_
                                    refine lv_istore_n (lv' := [(1, .int 2), (3, .int r_56), (2, .int r_55), (0, .ref h)]) hx hb dX8_isLand_183 rfl hl (by decide) rfl (fun ls hl => ?_)
                                    refine lv_aload_n hx hb dX8_isLand_184 rfl (lv_at hl 3 rfl) ?_
                                    refine lv_iload_n hx hb dX8_isLand_185 rfl (lv_at hl 2 rfl) ?_
                                    have k_89 := (p_X8_isWalker l D cI cB cQ H.size h sl zs ln ir tk tb tr fz na su le g0_c76 g1_c76 g2_c76 tc g3_c76 r_55 g4_c76 tbf v0 ha_g4_c76 (by omega) (by omega) (by omega) (by omega) (by omega) (by omega) (by omega))
                                    refine wc_i (WC := [(h, .inr (7, [.ref sl, .int na, .ref zs, .ref ln, .ref ir, .ref tk, .int su, .int le, .ref tb, .int g0_c76, .int g1_c76, .int g2_c76, .ref tr, .int tc, .ref fz, .int g3_c76])), (sl, .inl (cI, 1653, .inl g4_c76)), (tb, .inl (cB, 120, .inl tbf))]) (WR := []) (va_runV (As := [.int r_55]) (rest := []) ⟨hx, hb, hml, hown, hts⟩ k_89 (cwV 1 hts gX8_isLand_X8_isWalker rfl rfl rfl (by decide +kernel) ⟨Nat.le_of_ble_eq_true rfl, Nat.le_of_ble_eq_true rfl⟩) (wp_V hP hK hD hN [1, 0, 2] (by decide) rfl (ci := 7) rfl rfl) rfl rfl hl.1 rfl (lv_room (Nat.le_of_ble_eq_true rfl)) dX8_isLand_186 ⟨Nat.le_of_ble_eq_true rfl, Nat.le_of_ble_eq_true rfl⟩) hP hD hS hA [1, 0, 2] [] rfl rfl (by decide) (by decide) (fun r_89 => pe5 (fun v89_0 v89_1 v89_2 v89_3 v89_4 H locs hw_89 hP hD hS => ?_))
                                    clear k_89
                                    have hP : va_P D kl [(h, .inr (7, [.ref sl, .int na, .ref zs, .ref ln, .ref ir, .ref tk, .int su, .int le, .ref tb, .int v89_0, .int v89_1, .int v89_2, .ref tr, .int tc, .ref fz, .int v89_3])), (sl, .inl (cI, 1653, .inl v89_4)), (tb, .inl (cB, 120, .inl tbf))] H := hP
                                    have hD : va_D A [(h, .inr (7, [.ref sl, .int na, .ref zs, .ref ln, .ref ir, .ref tk, .int su, .int le, .ref tb, .int v89_0, .int v89_1, .int v89_2, .ref tr, .int tc, .ref fz, .int v89_3])), (sl, .inl (cI, 1653, .inl v89_4)), (tb, .inl (cB, 120, .inl tbf))] := hD
                                    obtain ⟨c89_0, c89_1, c89_2, c89_3, c89_4, c89_5⟩ := hw_89
                                    have c89_1 : (g1_c76.toInt ≤ v89_1.toInt) := c89_1
                                    have c89_2 : FRM (1596) (1653) g4_c76 v89_4 := c89_2
                                    have c89_3 : 0 ≤ v89_1.toInt ∧ v89_1.toInt ≤ 120 := c89_3
                                    have c89_4 : 0 ≤ v89_2.toInt ∧ v89_2.toInt ≤ 120 := c89_4
                                    have c89_5 : SI v89_4 v0 := c89_5
                                    have hf_89 : FRM (1596) (1653) sf v89_4 := FRM.trans hf_c76 (FRM.sub c89_2 (by omega) (by omega))
                                    rcases c89_0 with ⟨e_89, f_89⟩ | ⟨e_89, f_89⟩
                                    · subst e_89
                                      have f_89 : ((((0, v89_0.toInt, v89_2.toInt, v89_1.toInt) : TPS), ur v89_4) : TPT) = tpW (tbr tbf le.toInt) ((0, g0_c76.toInt, g2_c76.toInt, g1_c76.toInt), ur g4_c76) ∧ g1_c76.toInt < v89_1.toInt ∧ (ur v89_4).1 = (ur g4_c76).1 ∧ (ur v89_4).2.1 = (ur g4_c76).2.1 := f_89
                                      refine lv_istore (lv' := [(4, .int 1), (1, .int 2), (3, .int r_56), (2, .int r_55), (0, .ref h)]) hx hb dX8_isLand_189 hl (by decide) rfl (fun ls hl => ?_)
                                      refine lv_goto (tgt := 205) hx hb dX8_isLand_191 (by decide) ?_
                                      refine lv_iload hx hb dX8_isLand_205 (lv_at hl 0 rfl) ?_
                                      refine lv_if_ne (tgt := 212) hx hb dX8_isLand_207 (by decide) (fun _ => ?_) (fun c9 => absurd c9 (by decide))
                                      refine lv_goto (tgt := 76) hx hb dX8_isLand_212 (by decide) ?_
                                      exact ih76 2 v89_0 v89_1 v89_2 v89_3 v89_4 _ _ _ (show 0 ≤ 2 ∧ 2 ≤ 2 from by omega) (show 0 ≤ v89_1.toInt ∧ v89_1.toInt ≤ 120 from by omega) (show 0 ≤ v89_2.toInt ∧ v89_2.toInt ≤ 120 from by omega) c89_5 (show 2 = 0 ∨ 1 ≤ (ur v89_4).1 from by omega) (show 0 ≤ (ur v89_4).1 from by omega) (show 0 ≤ (ur v89_4).2.1 ∧ (ur v89_4).2.1 ≤ 12 from by omega) (tpq_back q0_c76 (tpq_W (fun p hp => tbr_hi hp) (by omega) (by omega) (by omega) (by omega) (by omega)) f_89.1 (by first | omega | decide)) hf_89 (by omega) (hP.sub [1, 0, 2] rfl) (hD.sub [1, 0, 2] (by decide) rfl) hS (lv_sub hl [1, 4] rfl)
                                    · subst e_89
                                      have f_89 : tfa (tpW (tbr tbf le.toInt) ((0, g0_c76.toInt, g2_c76.toInt, g1_c76.toInt), ur g4_c76)).1 v89_0.toInt v89_2.toInt := f_89
                                      refine lv_istore (lv' := [(4, .int 0), (1, .int 2), (3, .int r_56), (2, .int r_55), (0, .ref h)]) hx hb dX8_isLand_189 hl (by decide) rfl (fun ls hl => ?_)
                                      refine lv_goto (tgt := 205) hx hb dX8_isLand_191 (by decide) ?_
                                      refine lv_iload hx hb dX8_isLand_205 (lv_at hl 0 rfl) ?_
                                      refine lv_if_ne (tgt := 212) hx hb dX8_isLand_207 (by decide) (fun c9 => absurd (by decide) c9) (fun _ => ?_)
                                      refine lv_iconst (v := 0) hx hb dX8_isLand_210 (by decide) ?_
                                      exact wr_z (v := 0) hx hb hr hlocks hS (v89_0, v89_1, v89_2, v89_3, v89_4) (by exact ⟨Or.inr (⟨rfl, show (tpA (tbr tbf le.toInt) le.toInt fu.toInt pp.toInt).1.1 = 1 ∧ (tpA (tbr tbf le.toInt) le.toInt fu.toInt pp.toInt).1.2.1 = v89_0.toInt ∧ (tpA (tbr tbf le.toInt) le.toInt fu.toInt pp.toInt).1.2.2.1 = v89_2.toInt from tfa_1 (tpq_fb q0_c76 (tpq_W (fun p hp => tbr_hi hp) (by omega) (by omega) (by omega) (by omega) (by omega)) f_89)⟩), show FRM (1596) (1653) sf v89_4 from hf_89, show 0 ≤ (v89_1 : Int32).toInt ∧ (v89_1 : Int32).toInt ≤ 120 from by omega, show 0 ≤ (v89_2 : Int32).toInt ∧ (v89_2 : Int32).toInt ≤ 120 from by omega, c89_5⟩) (hP.sub [0, 1, 2] rfl) (hD.sub [0, 1, 2] (by decide) rfl) dX8_isLand_211 rfl
                              · have f_83 : ¬ (ur g4_c76).1 ≤ 0 := by
                                  have h8 := zi_nle c_83
                                  try rw [u_82] at h8
                                  exact h8
                                refine lv_iconst (v := 1) hx hb dX8_isLand_156 (by decide) ?_
                                refine lv_istore_n (lv' := [(1, .int 1), (3, .int r_56), (2, .int r_55), (0, .ref h)]) hx hb dX8_isLand_157 rfl hl (by decide) rfl (fun ls hl => ?_)
                                refine lv_aload_n hx hb dX8_isLand_158 rfl (lv_at hl 3 rfl) ?_
                                have k_90 := (p_X8_isRoad l D cI cB cQ H.size h sl zs ln ir tk tb tr fz na su le g0_c76 g1_c76 g2_c76 tc g3_c76 g4_c76 tbf v0 ha_g4_c76 (by omega) (by omega) (by omega) (by omega) (by omega) (by omega) (by omega))
                                refine wc_i (WC := [(h, .inr (7, [.ref sl, .int na, .ref zs, .ref ln, .ref ir, .ref tk, .int su, .int le, .ref tb, .int g0_c76, .int g1_c76, .int g2_c76, .ref tr, .int tc, .ref fz, .int g3_c76])), (sl, .inl (cI, 1653, .inl g4_c76)), (tb, .inl (cB, 120, .inl tbf))]) (WR := []) (va_runV (As := []) (rest := []) ⟨hx, hb, hml, hown, hts⟩ k_90 (cwV 0 hts gX8_isLand_X8_isRoad rfl rfl rfl (by decide +kernel) ⟨Nat.le_of_ble_eq_true rfl, Nat.le_of_ble_eq_true rfl⟩) (wp_V hP hK hD hN [1, 0, 2] (by decide) rfl (ci := 7) rfl rfl) rfl rfl hl.1 rfl (lv_room (Nat.le_of_ble_eq_true rfl)) dX8_isLand_159 ⟨Nat.le_of_ble_eq_true rfl, Nat.le_of_ble_eq_true rfl⟩) hP hD hS hA [1, 0, 2] [] rfl rfl (by decide) (by decide) (fun r_90 => pe5 (fun v90_0 v90_1 v90_2 v90_3 v90_4 H locs hw_90 hP hD hS => ?_))
                                clear k_90
                                have hP : va_P D kl [(h, .inr (7, [.ref sl, .int na, .ref zs, .ref ln, .ref ir, .ref tk, .int su, .int le, .ref tb, .int v90_0, .int v90_1, .int v90_2, .ref tr, .int tc, .ref fz, .int v90_3])), (sl, .inl (cI, 1653, .inl v90_4)), (tb, .inl (cB, 120, .inl tbf))] H := hP
                                have hD : va_D A [(h, .inr (7, [.ref sl, .int na, .ref zs, .ref ln, .ref ir, .ref tk, .int su, .int le, .ref tb, .int v90_0, .int v90_1, .int v90_2, .ref tr, .int tc, .ref fz, .int v90_3])), (sl, .inl (cI, 1653, .inl v90_4)), (tb, .inl (cB, 120, .inl tbf))] := hD
                                obtain ⟨c90_0, c90_1, c90_2, c90_3, c90_4, c90_5⟩ := hw_90
                                have c90_1 : (g1_c76.toInt ≤ v90_1.toInt) := c90_1
                                have c90_2 : FRM (1596) (1653) g4_c76 v90_4 := c90_2
                                have c90_3 : 0 ≤ v90_1.toInt ∧ v90_1.toInt ≤ 120 := c90_3
                                have c90_4 : 0 ≤ v90_2.toInt ∧ v90_2.toInt ≤ 120 := c90_4
                                have c90_5 : SI v90_4 v0 := c90_5
                                have hf_90 : FRM (1596) (1653) sf v90_4 := FRM.trans hf_c76 (FRM.sub c90_2 (by omega) (by omega))
                                rcases c90_0 with ⟨e_90, f_90⟩ | ⟨e_90, f_90⟩
                                · subst e_90
                                  have f_90 : ((((0, v90_0.toInt, v90_2.toInt, v90_1.toInt) : TPS), ur v90_4) : TPT) = tpR (tbr tbf le.toInt) ((0, g0_c76.toInt, g2_c76.toInt, g1_c76.toInt), ur g4_c76) ∧ g1_c76.toInt < v90_1.toInt ∧ (ur v90_4).1 = (ur g4_c76).1 ∧ (ur v90_4).2.1 = (ur g4_c76).2.1 + 1 ∧ (ur g4_c76).2.1 ≤ 11 := f_90
                                  refine lv_istore (lv' := [(4, .int 1), (1, .int 1), (3, .int r_56), (2, .int r_55), (0, .ref h)]) hx hb dX8_isLand_162 hl (by decide) rfl (fun ls hl => ?_)
                                  refine lv_goto (tgt := 205) hx hb dX8_isLand_164 (by decide) ?_
                                  refine lv_iload hx hb dX8_isLand_205 (lv_at hl 0 rfl) ?_
                                  refine lv_if_ne (tgt := 212) hx hb dX8_isLand_207 (by decide) (fun _ => ?_) (fun c9 => absurd c9 (by decide))
                                  refine lv_goto (tgt := 76) hx hb dX8_isLand_212 (by decide) ?_
                                  exact ih76 1 v90_0 v90_1 v90_2 v90_3 v90_4 _ _ _ (show 0 ≤ 1 ∧ 1 ≤ 2 from by omega) (show 0 ≤ v90_1.toInt ∧ v90_1.toInt ≤ 120 from by omega) (show 0 ≤ v90_2.toInt ∧ v90_2.toInt ≤ 120 from by omega) c90_5 (show 1 = 0 ∨ 1 ≤ (ur v90_4).1 from by omega) (show 0 ≤ (ur v90_4).1 from by omega) (show 0 ≤ (ur v90_4).2.1 ∧ (ur v90_4).2.1 ≤ 12 from by omega) (tpq_back q0_c76 (tpq_R (fun p hp => tbr_hi hp) (by omega) (by omega) (by omega) (by omega) (by omega)) f_90.1 (by first | omega | decide)) hf_90 (by omega) (hP.sub [1, 0, 2] rfl) (hD.sub [1, 0, 2] (by decide) rfl) hS (lv_sub hl [1, 4] rfl)
                                · subst e_90
                                  have f_90 : tfa (tpR (tbr tbf le.toInt) ((0, g0_c76.toInt, g2_c76.toInt, g1_c76.toInt), ur g4_c76)).1 v90_0.toInt v90_2.toInt := f_90
                                  refine lv_istore (lv' := [(4, .int 0), (1, .int 1), (3, .int r_56), (2, .int r_55), (0, .ref h)]) hx hb dX8_isLand_162 hl (by decide) rfl (fun ls hl => ?_)
                                  refine lv_goto (tgt := 205) hx hb dX8_isLand_164 (by decide) ?_
                                  refine lv_iload hx hb dX8_isLand_205 (lv_at hl 0 rfl) ?_
                                  refine lv_if_ne (tgt := 212) hx hb dX8_isLand_207 (by decide) (fun c9 => absurd (by decide) c9) (fun _ => ?_)
                                  refine lv_iconst (v := 0) hx hb dX8_isLand_210 (by decide) ?_
                                  exact wr_z (v := 0) hx hb hr hlocks hS (v90_0, v90_1, v90_2, v90_3, v90_4) (by exact ⟨Or.inr (⟨rfl, show (tpA (tbr tbf le.toInt) le.toInt fu.toInt pp.toInt).1.1 = 1 ∧ (tpA (tbr tbf le.toInt) le.toInt fu.toInt pp.toInt).1.2.1 = v90_0.toInt ∧ (tpA (tbr tbf le.toInt) le.toInt fu.toInt pp.toInt).1.2.2.1 = v90_2.toInt from tfa_1 (tpq_fb q0_c76 (tpq_R (fun p hp => tbr_hi hp) (by omega) (by omega) (by omega) (by omega) (by omega)) f_90)⟩), show FRM (1596) (1653) sf v90_4 from hf_90, show 0 ≤ (v90_1 : Int32).toInt ∧ (v90_1 : Int32).toInt ≤ 120 from by omega, show 0 ≤ (v90_2 : Int32).toInt ∧ (v90_2 : Int32).toInt ≤ 120 from by omega, c90_5⟩) (hP.sub [0, 1, 2] rfl) (hD.sub [0, 1, 2] (by decide) rfl) dX8_isLand_211 rfl
                        · have f_67 : r_55.toInt = 99 := zi_eq c_67
                          refine lv_iload_n hx hb dX8_isLand_120 rfl (lv_at hl 2 rfl) ?_
                          refine lv_if_ne (tgt := 134) hx hb dX8_isLand_121 (by decide) (fun c_91 => ?_) (fun c_91 => ?_)
                          · have f_91 : ¬ t1_c76.toInt = 0 := zi_ne c_91
                            refine lv_iload_n hx hb dX8_isLand_134 rfl (lv_at hl 1 rfl) ?_
                            refine lv_bipush (v := 114) hx hb dX8_isLand_135 (by decide) ?_
                            refine lv_icmp_ne (tgt := 167) hx hb dX8_isLand_137 (by decide) (fun c_92 => ?_) (fun c_92 => ?_)
                            · have f_92 : ¬ r_55.toInt = 114 := zi_ne c_92
                              refine lv_iload_n hx hb dX8_isLand_167 rfl (lv_at hl 0 rfl) ?_
                              refine lv_if_le (tgt := 194) hx hb dX8_isLand_168 (by decide) (fun c_93 => ?_) (fun c_93 => ?_)
                              · have f_93 : r_56.toInt ≤ 0 := zi_le c_93
                                refine lv_aload_n hx hb dX8_isLand_194 rfl (lv_at hl 3 rfl) ?_
                                refine lv_iconst (v := 1) hx hb dX8_isLand_195 (by decide) ?_
                                refine lv_aload_n hx hb dX8_isLand_196 rfl (lv_at hl 3 rfl) ?_
                                refine va_get (D := D) (ci := 7) (v := .int g1_c76) (C := RX8) (T := TX8) (N := 16) hx hb hts (fun _ h => List.mem_cons_of_mem _ (List.mem_append_right _ h)) hown hK hP 1 rfl rfl 10 (by decide) (hts (.fieldLink RX8 62 "WinterWalkModel" "at" "I") (List.mem_of_getElem? (i := 1) rfl)) (fun _ h9 => h9) rfl dX8_isLand_197 ?_
                                have k_94 := (p_X8_fails l D cI cB cQ H.size h sl zs ln ir tk tb tr fz na su le g0_c76 g1_c76 g2_c76 tc g3_c76 1 g1_c76 (by omega) (by omega))
                                refine wc_i (WC := [(h, .inr (7, [.ref sl, .int na, .ref zs, .ref ln, .ref ir, .ref tk, .int su, .int le, .ref tb, .int g0_c76, .int g1_c76, .int g2_c76, .ref tr, .int tc, .ref fz, .int g3_c76]))]) (WR := [(sl, .inl (cI, 1653, .inl g4_c76)), (tb, .inl (cB, 120, .inl tbf))]) (va_runV (As := [.int 1, .int g1_c76]) (rest := []) ⟨hx, hb, hml, hown, hts⟩ k_94 (cwV 2 hts gX8_isLand_X8_fails rfl rfl rfl (by decide +kernel) ⟨Nat.le_of_ble_eq_true rfl, Nat.le_of_ble_eq_true rfl⟩) (wp_V hP hK hD hN [1] (by decide) rfl (ci := 7) rfl rfl) rfl rfl hl.1 rfl (lv_room (Nat.le_of_ble_eq_true rfl)) dX8_isLand_200 ⟨Nat.le_of_ble_eq_true rfl, Nat.le_of_ble_eq_true rfl⟩) hP hD hS hA [1] [0, 2] rfl rfl (by decide) (by decide) (fun r_94 => pe2 (fun v94_0 v94_1 H locs hw_94 hP hD hS => ?_))
                                clear k_94
                                have hP : va_P D kl [(sl, .inl (cI, 1653, .inl g4_c76)), (tb, .inl (cB, 120, .inl tbf)), (h, .inr (7, [.ref sl, .int na, .ref zs, .ref ln, .ref ir, .ref tk, .int su, .int le, .ref tb, .int v94_0, .int g1_c76, .int v94_1, .ref tr, .int tc, .ref fz, .int g3_c76]))] H := hP
                                have hD : va_D A [(sl, .inl (cI, 1653, .inl g4_c76)), (tb, .inl (cB, 120, .inl tbf)), (h, .inr (7, [.ref sl, .int na, .ref zs, .ref ln, .ref ir, .ref tk, .int su, .int le, .ref tb, .int v94_0, .int g1_c76, .int v94_1, .ref tr, .int tc, .ref fz, .int g3_c76]))] := hD
                                obtain ⟨c94_0, c94_1, c94_2⟩ := hw_94
                                have c94_1 : v94_0.toInt = (1 : Int) ∧ v94_1.toInt = g1_c76.toInt := c94_1
                                have c94_2 : 0 ≤ v94_1.toInt ∧ v94_1.toInt ≤ 120 := c94_2
                                have e_94 := c94_0
                                · subst e_94
                                  refine lv_istore (lv' := [(4, .int 0), (3, .int r_56), (2, .int r_55), (1, .int t1_c76), (0, .ref h)]) hx hb dX8_isLand_203 hl (by decide) rfl (fun ls hl => ?_)
                                  refine lv_iload hx hb dX8_isLand_205 (lv_at hl 0 rfl) ?_
                                  refine lv_if_ne (tgt := 212) hx hb dX8_isLand_207 (by decide) (fun c9 => absurd (by decide) c9) (fun _ => ?_)
                                  refine lv_iconst (v := 0) hx hb dX8_isLand_210 (by decide) ?_
                                  exact wr_z (v := 0) hx hb hr hlocks hS (v94_0, g1_c76, v94_1, g3_c76, g4_c76) (by exact ⟨Or.inr (⟨rfl, show (tpA (tbr tbf le.toInt) le.toInt fu.toInt pp.toInt).1.1 = 1 ∧ (tpA (tbr tbf le.toInt) le.toInt fu.toInt pp.toInt).1.2.1 = v94_0.toInt ∧ (tpA (tbr tbf le.toInt) le.toInt fu.toInt pp.toInt).1.2.2.1 = v94_1.toInt from tfa_1 (by rw [← q0_c76]; exact tpq_x (by omega) (by omega) (by omega) (by omega) (by omega) (by omega) (by omega) (by omega) (by omega))⟩), show FRM (1596) (1653) sf g4_c76 from hf_c76, show 0 ≤ (g1_c76 : Int32).toInt ∧ (g1_c76 : Int32).toInt ≤ 120 from by omega, show 0 ≤ (v94_1 : Int32).toInt ∧ (v94_1 : Int32).toInt ≤ 120 from by omega, ha_g4_c76⟩) (hP.sub [2, 0, 1] rfl) (hD.sub [2, 0, 1] (by decide) rfl) dX8_isLand_211 rfl
                              · have f_93 : ¬ r_56.toInt ≤ 0 := zi_nle c_93
                                refine lv_aload_n hx hb dX8_isLand_171 rfl (lv_at hl 3 rfl) ?_
                                refine va_get (D := D) (ci := 7) (v := .ref sl) (C := RX8) (T := TX8) (N := 16) hx hb hts (fun _ h => List.mem_cons_of_mem _ (List.mem_append_right _ h)) hown hK hP 1 rfl rfl 0 (by decide) (hts (.fieldLink RX8 7 "WinterWalkModel" "slot" "[I") (List.mem_of_getElem? (i := 2) rfl)) (fun _ h9 => h9) rfl dX8_isLand_172 ?_
                                refine lv_sipush (v := 1597) hx hb dX8_isLand_175 (by decide) ?_
                                refine va_iald hx hb hK hP 0 0 rfl rfl (zi_in (by decide) (by decide)) dX8_isLand_178 ?_
                                refine lv_topi (fun x_95 ex_95 => ?_)
                                have f_95 : 0 ≤ x_95.toInt ∧ x_95.toInt ≤ 8 := by rw [ex_95]; exact si_v ha_g4_c76 (s := 28) (by decide) (by omega)
                                have u_95 : x_95.toInt = (ur g4_c76).1 := by rw [ex_95]; exact ux_v
                                refine lv_if_le (tgt := 194) hx hb dX8_isLand_179 (by decide) (fun c_96 => ?_) (fun c_96 => ?_)
                                · have f_96 : (ur g4_c76).1 ≤ 0 := by
                                    have h8 := zi_le c_96
                                    try rw [u_95] at h8
                                    exact h8
                                  refine lv_aload_n hx hb dX8_isLand_194 rfl (lv_at hl 3 rfl) ?_
                                  refine lv_iconst (v := 1) hx hb dX8_isLand_195 (by decide) ?_
                                  refine lv_aload_n hx hb dX8_isLand_196 rfl (lv_at hl 3 rfl) ?_
                                  refine va_get (D := D) (ci := 7) (v := .int g1_c76) (C := RX8) (T := TX8) (N := 16) hx hb hts (fun _ h => List.mem_cons_of_mem _ (List.mem_append_right _ h)) hown hK hP 1 rfl rfl 10 (by decide) (hts (.fieldLink RX8 62 "WinterWalkModel" "at" "I") (List.mem_of_getElem? (i := 1) rfl)) (fun _ h9 => h9) rfl dX8_isLand_197 ?_
                                  have k_97 := (p_X8_fails l D cI cB cQ H.size h sl zs ln ir tk tb tr fz na su le g0_c76 g1_c76 g2_c76 tc g3_c76 1 g1_c76 (by omega) (by omega))
                                  refine wc_i (WC := [(h, .inr (7, [.ref sl, .int na, .ref zs, .ref ln, .ref ir, .ref tk, .int su, .int le, .ref tb, .int g0_c76, .int g1_c76, .int g2_c76, .ref tr, .int tc, .ref fz, .int g3_c76]))]) (WR := [(sl, .inl (cI, 1653, .inl g4_c76)), (tb, .inl (cB, 120, .inl tbf))]) (va_runV (As := [.int 1, .int g1_c76]) (rest := []) ⟨hx, hb, hml, hown, hts⟩ k_97 (cwV 2 hts gX8_isLand_X8_fails rfl rfl rfl (by decide +kernel) ⟨Nat.le_of_ble_eq_true rfl, Nat.le_of_ble_eq_true rfl⟩) (wp_V hP hK hD hN [1] (by decide) rfl (ci := 7) rfl rfl) rfl rfl hl.1 rfl (lv_room (Nat.le_of_ble_eq_true rfl)) dX8_isLand_200 ⟨Nat.le_of_ble_eq_true rfl, Nat.le_of_ble_eq_true rfl⟩) hP hD hS hA [1] [0, 2] rfl rfl (by decide) (by decide) (fun r_97 => pe2 (fun v97_0 v97_1 H locs hw_97 hP hD hS => ?_))
                                  clear k_97
                                  have hP : va_P D kl [(sl, .inl (cI, 1653, .inl g4_c76)), (tb, .inl (cB, 120, .inl tbf)), (h, .inr (7, [.ref sl, .int na, .ref zs, .ref ln, .ref ir, .ref tk, .int su, .int le, .ref tb, .int v97_0, .int g1_c76, .int v97_1, .ref tr, .int tc, .ref fz, .int g3_c76]))] H := hP
                                  have hD : va_D A [(sl, .inl (cI, 1653, .inl g4_c76)), (tb, .inl (cB, 120, .inl tbf)), (h, .inr (7, [.ref sl, .int na, .ref zs, .ref ln, .ref ir, .ref tk, .int su, .int le, .ref tb, .int v97_0, .int g1_c76, .int v97_1, .ref tr, .int tc, .ref fz, .int g3_c76]))] := hD
                                  obtain ⟨c97_0, c97_1, c97_2⟩ := hw_97
                                  have c97_1 : v97_0.toInt = (1 : Int) ∧ v97_1.toInt = g1_c76.toInt := c97_1
                                  have c97_2 : 0 ≤ v97_1.toInt ∧ v97_1.toInt ≤ 120 := c97_2
                                  have e_97 := c97_0
                                  · subst e_97
                                    refine lv_istore (lv' := [(4, .int 0), (3, .int r_56), (2, .int r_55), (1, .int t1_c76), (0, .ref h)]) hx hb dX8_isLand_203 hl (by decide) rfl (fun ls hl => ?_)
                                    refine lv_iload hx hb dX8_isLand_205 (lv_at hl 0 rfl) ?_
                                    refine lv_if_ne (tgt := 212) hx hb dX8_isLand_207 (by decide) (fun c9 => absurd (by decide) c9) (fun _ => ?_)
                                    refine lv_iconst (v := 0) hx hb dX8_isLand_210 (by decide) ?_
                                    exact wr_z (v := 0) hx hb hr hlocks hS (v97_0, g1_c76, v97_1, g3_c76, g4_c76) (by exact ⟨Or.inr (⟨rfl, show (tpA (tbr tbf le.toInt) le.toInt fu.toInt pp.toInt).1.1 = 1 ∧ (tpA (tbr tbf le.toInt) le.toInt fu.toInt pp.toInt).1.2.1 = v97_0.toInt ∧ (tpA (tbr tbf le.toInt) le.toInt fu.toInt pp.toInt).1.2.2.1 = v97_1.toInt from tfa_1 (by rw [← q0_c76]; exact tpq_x (by omega) (by omega) (by omega) (by omega) (by omega) (by omega) (by omega) (by omega) (by omega))⟩), show FRM (1596) (1653) sf g4_c76 from hf_c76, show 0 ≤ (g1_c76 : Int32).toInt ∧ (g1_c76 : Int32).toInt ≤ 120 from by omega, show 0 ≤ (v97_1 : Int32).toInt ∧ (v97_1 : Int32).toInt ≤ 120 from by omega, ha_g4_c76⟩) (hP.sub [2, 0, 1] rfl) (hD.sub [2, 0, 1] (by decide) rfl) dX8_isLand_211 rfl
                                · have f_96 : ¬ (ur g4_c76).1 ≤ 0 := by
                                    have h8 := zi_nle c_96
                                    try rw [u_95] at h8
                                    exact h8
                                  refine lv_iconst (v := 2) hx hb dX8_isLand_182 (by decide) ?_
                                  refine lv_istore_n (lv' := [(1, .int 2), (3, .int r_56), (2, .int r_55), (0, .ref h)]) hx hb dX8_isLand_183 rfl hl (by decide) rfl (fun ls hl => ?_)
                                  refine lv_aload_n hx hb dX8_isLand_184 rfl (lv_at hl 3 rfl) ?_
                                  refine lv_iload_n hx hb dX8_isLand_185 rfl (lv_at hl 2 rfl) ?_
                                  have k_98 := (p_X8_isWalker l D cI cB cQ H.size h sl zs ln ir tk tb tr fz na su le g0_c76 g1_c76 g2_c76 tc g3_c76 r_55 g4_c76 tbf v0 ha_g4_c76 (by omega) (by omega) (by omega) (by omega) (by omega) (by omega) (by omega))
                                  refine wc_i (WC := [(h, .inr (7, [.ref sl, .int na, .ref zs, .ref ln, .ref ir, .ref tk, .int su, .int le, .ref tb, .int g0_c76, .int g1_c76, .int g2_c76, .ref tr, .int tc, .ref fz, .int g3_c76])), (sl, .inl (cI, 1653, .inl g4_c76)), (tb, .inl (cB, 120, .inl tbf))]) (WR := []) (va_runV (As := [.int r_55]) (rest := []) ⟨hx, hb, hml, hown, hts⟩ k_98 (cwV 1 hts gX8_isLand_X8_isWalker rfl rfl rfl (by decide +kernel) ⟨Nat.le_of_ble_eq_true rfl, Nat.le_of_ble_eq_true rfl⟩) (wp_V hP hK hD hN [1, 0, 2] (by decide) rfl (ci := 7) rfl rfl) rfl rfl hl.1 rfl (lv_room (Nat.le_of_ble_eq_true rfl)) dX8_isLand_186 ⟨Nat.le_of_ble_eq_true rfl, Nat.le_of_ble_eq_true rfl⟩) hP hD hS hA [1, 0, 2] [] rfl rfl (by decide) (by decide) (fun r_98 => pe5 (fun v98_0 v98_1 v98_2 v98_3 v98_4 H locs hw_98 hP hD hS => ?_))
                                  clear k_98
                                  have hP : va_P D kl [(h, .inr (7, [.ref sl, .int na, .ref zs, .ref ln, .ref ir, .ref tk, .int su, .int le, .ref tb, .int v98_0, .int v98_1, .int v98_2, .ref tr, .int tc, .ref fz, .int v98_3])), (sl, .inl (cI, 1653, .inl v98_4)), (tb, .inl (cB, 120, .inl tbf))] H := hP
                                  have hD : va_D A [(h, .inr (7, [.ref sl, .int na, .ref zs, .ref ln, .ref ir, .ref tk, .int su, .int le, .ref tb, .int v98_0, .int v98_1, .int v98_2, .ref tr, .int tc, .ref fz, .int v98_3])), (sl, .inl (cI, 1653, .inl v98_4)), (tb, .inl (cB, 120, .inl tbf))] := hD
                                  obtain ⟨c98_0, c98_1, c98_2, c98_3, c98_4, c98_5⟩ := hw_98
                                  have c98_1 : (g1_c76.toInt ≤ v98_1.toInt) := c98_1
                                  have c98_2 : FRM (1596) (1653) g4_c76 v98_4 := c98_2
                                  have c98_3 : 0 ≤ v98_1.toInt ∧ v98_1.toInt ≤ 120 := c98_3
                                  have c98_4 : 0 ≤ v98_2.toInt ∧ v98_2.toInt ≤ 120 := c98_4
                                  have c98_5 : SI v98_4 v0 := c98_5
                                  have hf_98 : FRM (1596) (1653) sf v98_4 := FRM.trans hf_c76 (FRM.sub c98_2 (by omega) (by omega))
                                  rcases c98_0 with ⟨e_98, f_98⟩ | ⟨e_98, f_98⟩
                                  · subst e_98
                                    have f_98 : ((((0, v98_0.toInt, v98_2.toInt, v98_1.toInt) : TPS), ur v98_4) : TPT) = tpW (tbr tbf le.toInt) ((0, g0_c76.toInt, g2_c76.toInt, g1_c76.toInt), ur g4_c76) ∧ g1_c76.toInt < v98_1.toInt ∧ (ur v98_4).1 = (ur g4_c76).1 ∧ (ur v98_4).2.1 = (ur g4_c76).2.1 := f_98
                                    refine lv_istore (lv' := [(4, .int 1), (1, .int 2), (3, .int r_56), (2, .int r_55), (0, .ref h)]) hx hb dX8_isLand_189 hl (by decide) rfl (fun ls hl => ?_)
                                    refine lv_goto (tgt := 205) hx hb dX8_isLand_191 (by decide) ?_
                                    refine lv_iload hx hb dX8_isLand_205 (lv_at hl 0 rfl) ?_
                                    refine lv_if_ne (tgt := 212) hx hb dX8_isLand_207 (by decide) (fun _ => ?_) (fun c9 => absurd c9 (by decide))
                                    refine lv_goto (tgt := 76) hx hb dX8_isLand_212 (by decide) ?_
                                    exact ih76 2 v98_0 v98_1 v98_2 v98_3 v98_4 _ _ _ (show 0 ≤ 2 ∧ 2 ≤ 2 from by omega) (show 0 ≤ v98_1.toInt ∧ v98_1.toInt ≤ 120 from by omega) (show 0 ≤ v98_2.toInt ∧ v98_2.toInt ≤ 120 from by omega) c98_5 (show 2 = 0 ∨ 1 ≤ (ur v98_4).1 from by omega) (show 0 ≤ (ur v98_4).1 from by omega) (show 0 ≤ (ur v98_4).2.1 ∧ (ur v98_4).2.1 ≤ 12 from by omega) (tpq_back q0_c76 (tpq_W (fun p hp => tbr_hi hp) (by omega) (by omega) (by omega) (by omega) (by omega)) f_98.1 (by first | omega | decide)) hf_98 (by omega) (hP.sub [1, 0, 2] rfl) (hD.sub [1, 0, 2] (by decide) rfl) hS (lv_sub hl [1, 4] rfl)
                                  · subst e_98
                                    have f_98 : tfa (tpW (tbr tbf le.toInt) ((0, g0_c76.toInt, g2_c76.toInt, g1_c76.toInt), ur g4_c76)).1 v98_0.toInt v98_2.toInt := f_98
                                    refine lv_istore (lv' := [(4, .int 0), (1, .int 2), (3, .int r_56), (2, .int r_55), (0, .ref h)]) hx hb dX8_isLand_189 hl (by decide) rfl (fun ls hl => ?_)
                                    refine lv_goto (tgt := 205) hx hb dX8_isLand_191 (by decide) ?_
                                    refine lv_iload hx hb dX8_isLand_205 (lv_at hl 0 rfl) ?_
                                    refine lv_if_ne (tgt := 212) hx hb dX8_isLand_207 (by decide) (fun c9 => absurd (by decide) c9) (fun _ => ?_)
                                    refine lv_iconst (v := 0) hx hb dX8_isLand_210 (by decide) ?_
                                    exact wr_z (v := 0) hx hb hr hlocks hS (v98_0, v98_1, v98_2, v98_3, v98_4) (by exact ⟨Or.inr (⟨rfl, show (tpA (tbr tbf le.toInt) le.toInt fu.toInt pp.toInt).1.1 = 1 ∧ (tpA (tbr tbf le.toInt) le.toInt fu.toInt pp.toInt).1.2.1 = v98_0.toInt ∧ (tpA (tbr tbf le.toInt) le.toInt fu.toInt pp.toInt).1.2.2.1 = v98_2.toInt from tfa_1 (tpq_fb q0_c76 (tpq_W (fun p hp => tbr_hi hp) (by omega) (by omega) (by omega) (by omega) (by omega)) f_98)⟩), show FRM (1596) (1653) sf v98_4 from hf_98, show 0 ≤ (v98_1 : Int32).toInt ∧ (v98_1 : Int32).toInt ≤ 120 from by omega, show 0 ≤ (v98_2 : Int32).toInt ∧ (v98_2 : Int32).toInt ≤ 120 from by omega, c98_5⟩) (hP.sub [0, 1, 2] rfl) (hD.sub [0, 1, 2] (by decide) rfl) dX8_isLand_211 rfl
                            · have f_92 : r_55.toInt = 114 := zi_eq c_92
                              exfalso; omega
                          · have f_91 : t1_c76.toInt = 0 := zi_eq c_91
                            refine lv_aload_n hx hb dX8_isLand_124 rfl (lv_at hl 3 rfl) ?_
                            refine lv_iload_n hx hb dX8_isLand_125 rfl (lv_at hl 1 rfl) ?_
                            have k_99 := (p_X8_isVillage l D cI cB cQ H.size h sl zs ln ir tk tb tr fz na su le g0_c76 g1_c76 g2_c76 tc g3_c76 r_55 g4_c76 tbf v0 ha_g4_c76 (by omega) (by omega) (by omega) (by omega) (by omega) (by omega))
                            refine wc_i (WC := [(h, .inr (7, [.ref sl, .int na, .ref zs, .ref ln, .ref ir, .ref tk, .int su, .int le, .ref tb, .int g0_c76, .int g1_c76, .int g2_c76, .ref tr, .int tc, .ref fz, .int g3_c76])), (sl, .inl (cI, 1653, .inl g4_c76)), (tb, .inl (cB, 120, .inl tbf))]) (WR := []) (va_runV (As := [.int r_55]) (rest := []) ⟨hx, hb, hml, hown, hts⟩ k_99 (cwV 1 hts gX8_isLand_X8_isVillage rfl rfl rfl (by decide +kernel) ⟨Nat.le_of_ble_eq_true rfl, Nat.le_of_ble_eq_true rfl⟩) (wp_V hP hK hD hN [1, 0, 2] (by decide) rfl (ci := 7) rfl rfl) rfl rfl hl.1 rfl (lv_room (Nat.le_of_ble_eq_true rfl)) dX8_isLand_126 ⟨Nat.le_of_ble_eq_true rfl, Nat.le_of_ble_eq_true rfl⟩) hP hD hS hA [1, 0, 2] [] rfl rfl (by decide) (by decide) (fun r_99 => pe5 (fun v99_0 v99_1 v99_2 v99_3 v99_4 H locs hw_99 hP hD hS => ?_))
                            clear k_99
                            have hP : va_P D kl [(h, .inr (7, [.ref sl, .int na, .ref zs, .ref ln, .ref ir, .ref tk, .int su, .int le, .ref tb, .int v99_0, .int v99_1, .int v99_2, .ref tr, .int tc, .ref fz, .int v99_3])), (sl, .inl (cI, 1653, .inl v99_4)), (tb, .inl (cB, 120, .inl tbf))] H := hP
                            have hD : va_D A [(h, .inr (7, [.ref sl, .int na, .ref zs, .ref ln, .ref ir, .ref tk, .int su, .int le, .ref tb, .int v99_0, .int v99_1, .int v99_2, .ref tr, .int tc, .ref fz, .int v99_3])), (sl, .inl (cI, 1653, .inl v99_4)), (tb, .inl (cB, 120, .inl tbf))] := hD
                            obtain ⟨c99_0, c99_1, c99_2, c99_3, c99_4, c99_5⟩ := hw_99
                            have c99_1 : (g1_c76.toInt ≤ v99_1.toInt) := c99_1
                            have c99_2 : FRM (1596) (1653) g4_c76 v99_4 := c99_2
                            have c99_3 : 0 ≤ v99_1.toInt ∧ v99_1.toInt ≤ 120 := c99_3
                            have c99_4 : 0 ≤ v99_2.toInt ∧ v99_2.toInt ≤ 120 := c99_4
                            have c99_5 : SI v99_4 v0 := c99_5
                            have hf_99 : FRM (1596) (1653) sf v99_4 := FRM.trans hf_c76 (FRM.sub c99_2 (by omega) (by omega))
                            rcases c99_0 with ⟨e_99, f_99⟩ | ⟨e_99, f_99⟩
                            · subst e_99
                              have f_99 : ((((0, v99_0.toInt, v99_2.toInt, v99_1.toInt) : TPS), ur v99_4) : TPT) = tpV (tbr tbf le.toInt) ((0, g0_c76.toInt, g2_c76.toInt, g1_c76.toInt), ur g4_c76) ∧ g1_c76.toInt < v99_1.toInt ∧ (ur v99_4).1 = (ur g4_c76).1 + 1 ∧ (ur v99_4).2.1 = (ur g4_c76).2.1 := f_99
                              refine lv_istore (lv' := [(4, .int 1), (3, .int r_56), (2, .int r_55), (1, .int t1_c76), (0, .ref h)]) hx hb dX8_isLand_129 hl (by decide) rfl (fun ls hl => ?_)
                              refine lv_goto (tgt := 205) hx hb dX8_isLand_131 (by decide) ?_
                              refine lv_iload hx hb dX8_isLand_205 (lv_at hl 0 rfl) ?_
                              refine lv_if_ne (tgt := 212) hx hb dX8_isLand_207 (by decide) (fun _ => ?_) (fun c9 => absurd c9 (by decide))
                              refine lv_goto (tgt := 76) hx hb dX8_isLand_212 (by decide) ?_
                              exact ih76 t1_c76 v99_0 v99_1 v99_2 v99_3 v99_4 _ _ _ (show 0 ≤ t1_c76.toInt ∧ t1_c76.toInt ≤ 2 from by omega) (show 0 ≤ v99_1.toInt ∧ v99_1.toInt ≤ 120 from by omega) (show 0 ≤ v99_2.toInt ∧ v99_2.toInt ≤ 120 from by omega) c99_5 (show t1_c76.toInt = 0 ∨ 1 ≤ (ur v99_4).1 from by omega) (show 0 ≤ (ur v99_4).1 from by omega) (show 0 ≤ (ur v99_4).2.1 ∧ (ur v99_4).2.1 ≤ 12 from by omega) (tpq_back q0_c76 (tpq_V (fun p hp => tbr_hi hp) (by omega) (by omega) (by omega) (by omega) (by omega)) f_99.1 (by first | omega | decide)) hf_99 (by omega) (hP.sub [1, 0, 2] rfl) (hD.sub [1, 0, 2] (by decide) rfl) hS (lv_sub hl [3, 4] rfl)
                            · subst e_99
                              have f_99 : tfa (tpV (tbr tbf le.toInt) ((0, g0_c76.toInt, g2_c76.toInt, g1_c76.toInt), ur g4_c76)).1 v99_0.toInt v99_2.toInt := f_99
                              refine lv_istore (lv' := [(4, .int 0), (3, .int r_56), (2, .int r_55), (1, .int t1_c76), (0, .ref h)]) hx hb dX8_isLand_129 hl (by decide) rfl (fun ls hl => ?_)
                              refine lv_goto (tgt := 205) hx hb dX8_isLand_131 (by decide) ?_
                              refine lv_iload hx hb dX8_isLand_205 (lv_at hl 0 rfl) ?_
                              refine lv_if_ne (tgt := 212) hx hb dX8_isLand_207 (by decide) (fun c9 => absurd (by decide) c9) (fun _ => ?_)
                              refine lv_iconst (v := 0) hx hb dX8_isLand_210 (by decide) ?_
                              exact wr_z (v := 0) hx hb hr hlocks hS (v99_0, v99_1, v99_2, v99_3, v99_4) (by exact ⟨Or.inr (⟨rfl, show (tpA (tbr tbf le.toInt) le.toInt fu.toInt pp.toInt).1.1 = 1 ∧ (tpA (tbr tbf le.toInt) le.toInt fu.toInt pp.toInt).1.2.1 = v99_0.toInt ∧ (tpA (tbr tbf le.toInt) le.toInt fu.toInt pp.toInt).1.2.2.1 = v99_2.toInt from tfa_1 (tpq_fb q0_c76 (tpq_V (fun p hp => tbr_hi hp) (by omega) (by omega) (by omega) (by omega) (by omega)) f_99)⟩), show FRM (1596) (1653) sf v99_4 from hf_99, show 0 ≤ (v99_1 : Int32).toInt ∧ (v99_1 : Int32).toInt ≤ 120 from by omega, show 0 ≤ (v99_2 : Int32).toInt ∧ (v99_2 : Int32).toInt ≤ 120 from by omega, c99_5⟩) (hP.sub [0, 1, 2] rfl) (hD.sub [0, 1, 2] (by decide) rfl) dX8_isLand_211 rfl
              have hu0 : ur (upd g0_c7 (1596 : Int32).toNatClampNeg v3_3) = (0, 0, 0, (fun _ => 0), (fun _ => 0)) := (ur_ne (ur_w3 ha_g0_c7) (by decide) (by decide)).trans (ur_zero (fun q hq => q0_c7 q (by omega)))
              have hu1 : (ur (upd g0_c7 (1596 : Int32).toNatClampNeg v3_3)).1 = 0 := congrArg (fun u : TPU => u.1) hu0
              have hu2 : (ur (upd g0_c7 (1596 : Int32).toNatClampNeg v3_3)).2.1 = 0 := congrArg (fun u : TPU => u.2.1) hu0
              exact hL76 (((120 - (v6_1 : Int32).toInt).toNat) + 1) 0 v6_0 v6_1 v6_2 v3_3 (upd g0_c7 (1596 : Int32).toNatClampNeg v3_3) _ _ _ (show 0 ≤ 0 ∧ 0 ≤ 2 from by omega) (show 0 ≤ v6_1.toInt ∧ v6_1.toInt ≤ 120 from by omega) (show 0 ≤ v6_2.toInt ∧ v6_2.toInt ≤ 120 from by omega) ha_4 (show 0 = 0 ∨ 1 ≤ (ur (upd g0_c7 (1596 : Int32).toNatClampNeg v3_3)).1 from by omega) (show 0 ≤ (ur (upd g0_c7 (1596 : Int32).toNatClampNeg v3_3)).1 from by omega) (show 0 ≤ (ur (upd g0_c7 (1596 : Int32).toNatClampNeg v3_3)).2.1 ∧ (ur (upd g0_c7 (1596 : Int32).toNatClampNeg v3_3)).2.1 ≤ 12 from by omega) (tpA_in (by rw [f_6, f_3.1, f_2]; rfl) hu0 (by decide)) hf_5 (Nat.lt_succ_self _) (hP.sub [0, 1, 2] rfl) (hD.sub [0, 1, 2] (by decide) rfl) hS (lv_sub hl [0, 1] rfl)
            · subst e_6
              have f_6 : tfa (tS (tbr tbf le.toInt) (59 : Int) (0, v3_0.toInt, v3_2.toInt, v3_1.toInt)) v6_0.toInt v6_2.toInt := f_6
              refine lv_if_ne (tgt := 74) hx hb dX8_isLand_69 (by decide) (fun c9 => absurd (by decide) c9) (fun _ => ?_)
              refine lv_iconst (v := 0) hx hb dX8_isLand_72 (by decide) ?_
              exact wr_z (v := 0) hx hb hr hlocks hS (v6_0, v6_1, v6_2, v3_3, (upd g0_c7 (1596 : Int32).toNatClampNeg v3_3)) (by exact ⟨Or.inr (⟨rfl, show (tpA (tbr tbf le.toInt) le.toInt fu.toInt pp.toInt).1.1 = 1 ∧ (tpA (tbr tbf le.toInt) le.toInt fu.toInt pp.toInt).1.2.1 = v6_0.toInt ∧ (tpA (tbr tbf le.toInt) le.toInt fu.toInt pp.toInt).1.2.2.1 = v6_2.toInt from tfa_1 (tpA_f (by show tfa (tS (tbr tbf le.toInt) 59 (tN (tbr tbf le.toInt) 1 9 (tS (tbr tbf le.toInt) 102 (0, fu.toInt, pp.toInt, 0)))) _ _; rw [← f_2, ← f_3.1]; exact f_6))⟩), show FRM (1596) (1653) sf (upd g0_c7 (1596 : Int32).toNatClampNeg v3_3) from hf_5, show 0 ≤ (v6_1 : Int32).toInt ∧ (v6_1 : Int32).toInt ≤ 120 from by omega, show 0 ≤ (v6_2 : Int32).toInt ∧ (v6_2 : Int32).toInt ≤ 120 from by omega, ha_4⟩) (hP.sub [1, 0, 2] rfl) (hD.sub [1, 0, 2] (by decide) rfl) dX8_isLand_73 rfl
          · subst e_3
            have f_3 : tfa (tN (tbr tbf le.toInt) (1 : Int) (9 : Int) (0, v2_0.toInt, v2_2.toInt, v2_1.toInt)) v3_0.toInt v3_2.toInt := f_3
            refine lv_if_ne (tgt := 51) hx hb dX8_isLand_46 (by decide) (fun c9 => absurd (by decide) c9) (fun _ => ?_)
            refine lv_iconst (v := 0) hx hb dX8_isLand_49 (by decide) ?_
            exact wr_z (v := 0) hx hb hr hlocks hS (v3_0, v3_1, v3_2, v3_3, g0_c7) (by exact ⟨Or.inr (⟨rfl, show (tpA (tbr tbf le.toInt) le.toInt fu.toInt pp.toInt).1.1 = 1 ∧ (tpA (tbr tbf le.toInt) le.toInt fu.toInt pp.toInt).1.2.1 = v3_0.toInt ∧ (tpA (tbr tbf le.toInt) le.toInt fu.toInt pp.toInt).1.2.2.1 = v3_2.toInt from tfa_1 (tpA_f (by show tfa (tS (tbr tbf le.toInt) 59 (tN (tbr tbf le.toInt) 1 9 (tS (tbr tbf le.toInt) 102 (0, fu.toInt, pp.toInt, 0)))) _ _; rw [← f_2]; exact tfa_S (f_3)))⟩), show FRM (1596) (1653) sf g0_c7 from hf_c7, show 0 ≤ (v3_1 : Int32).toInt ∧ (v3_1 : Int32).toInt ≤ 120 from by omega, show 0 ≤ (v3_2 : Int32).toInt ∧ (v3_2 : Int32).toInt ≤ 120 from by omega, ha_g0_c7⟩) (hP.sub [1, 0, 2] rfl) (hD.sub [1, 0, 2] (by decide) rfl) dX8_isLand_50 rfl
        · subst e_2
          have f_2 : tfa (tS (tbr tbf le.toInt) (102 : Int) (0, fu.toInt, pp.toInt, (0 : Int))) v2_0.toInt v2_2.toInt := f_2
          refine lv_if_eq (tgt := 49) hx hb dX8_isLand_36 (by decide) (fun _ => ?_) (fun c9 => absurd (by decide) c9)
          refine lv_iconst (v := 0) hx hb dX8_isLand_49 (by decide) ?_
          exact wr_z (v := 0) hx hb hr hlocks hS (v2_0, v2_1, v2_2, nm, g0_c7) (by exact ⟨Or.inr (⟨rfl, show (tpA (tbr tbf le.toInt) le.toInt fu.toInt pp.toInt).1.1 = 1 ∧ (tpA (tbr tbf le.toInt) le.toInt fu.toInt pp.toInt).1.2.1 = v2_0.toInt ∧ (tpA (tbr tbf le.toInt) le.toInt fu.toInt pp.toInt).1.2.2.1 = v2_2.toInt from tfa_1 (tpA_f (by show tfa (tS (tbr tbf le.toInt) 59 (tN (tbr tbf le.toInt) 1 9 (tS (tbr tbf le.toInt) 102 (0, fu.toInt, pp.toInt, 0)))) _ _; exact tfa_S (tfa_N (f_2))))⟩), show FRM (1596) (1653) sf g0_c7 from hf_c7, show 0 ≤ (v2_1 : Int32).toInt ∧ (v2_1 : Int32).toInt ≤ 120 from by omega, show 0 ≤ (v2_2 : Int32).toInt ∧ (v2_2 : Int32).toInt ≤ 120 from by omega, ha_g0_c7⟩) (hP.sub [1, 0, 2] rfl) (hD.sub [1, 0, 2] (by decide) rfl) dX8_isLand_50 rfl
      · have f_1 : ¬ 57 ≤ t1_c7.toInt := zi_nle c_1
        refine lv_aload_n hx hb dX8_isLand_13 rfl (lv_at hl 1 rfl) ?_
        refine va_get (D := D) (ci := 7) (v := .ref sl) (C := RX8) (T := TX8) (N := 16) hx hb hts (fun _ h => List.mem_cons_of_mem _ (List.mem_append_right _ h)) hown hK hP 0 rfl rfl 0 (by decide) (hts (.fieldLink RX8 7 "WinterWalkModel" "slot" "[I") (List.mem_of_getElem? (i := 2) rfl)) (fun _ h9 => h9) rfl dX8_isLand_14 ?_
        refine lv_sipush (v := 1596) hx hb dX8_isLand_17 (by decide) ?_
        refine lv_iload_n hx hb dX8_isLand_20 rfl (lv_at hl 0 rfl) ?_
        refine lv_iadd hx hb dX8_isLand_21 ?_
        refine lv_topi (fun x_100 ex_100 => ?_)
        have e_100 : x_100.toInt = 1596 + t1_c7.toInt := by rw [ex_100]; exact zi_add (by decide) (rfl) (by omega) (by omega)
        clear ex_100
        refine lv_iconst (v := 0) hx hb dX8_isLand_22 (by decide) ?_
        refine va_iast hx hb hK hP hD hS 1 0 rfl rfl (zi_in (by omega) (by omega)) dX8_isLand_23 (fun H locs hP hD hS => ?_)
        have hP : va_P D kl [(h, .inr (7, [.ref sl, .int na, .ref zs, .ref ln, .ref ir, .ref tk, .int su, .int le, .ref tb, .int fu, .int 0, .int pp, .ref tr, .int tc, .ref fz, .int nm])), (sl, .inl (cI, 1653, .inl (upd g0_c7 (x_100 : Int32).toNatClampNeg 0))), (tb, .inl (cB, 120, .inl tbf))] H := hP
        have hD : va_D A [(h, .inr (7, [.ref sl, .int na, .ref zs, .ref ln, .ref ir, .ref tk, .int su, .int le, .ref tb, .int fu, .int 0, .int pp, .ref tr, .int tc, .ref fz, .int nm])), (sl, .inl (cI, 1653, .inl (upd g0_c7 (x_100 : Int32).toNatClampNeg 0))), (tb, .inl (cB, 120, .inl tbf))] := hD
        have ha_101 : SI (upd g0_c7 (x_100 : Int32).toNatClampNeg 0) v0 := si_up ha_g0_c7 (by omega) (fun s0 a0 b0 e0 => by first | decide | omega) (fun s0 a0 b0 e0 => by first | decide | omega) (fun s0 k0 a0 b0 c0 d0 e0 => by first | decide | omega) (by omega)
        have hf_102 : FRM (1596) (1653) sf (upd g0_c7 (x_100 : Int32).toNatClampNeg 0) := FRM.up hf_c7 (by omega)
        obtain ⟨x_103, ex_103⟩ : ∃ y : Int32, y = t1_c7 + Int32.ofInt 1 := ⟨_, rfl⟩
        refine lv_iinc (v := x_103) (lv' := [(1, .int x_103), (0, .ref h)]) hx hb dX8_isLand_24 hl (k := 0) rfl ex_103.symm (by decide) rfl (fun ls hl => ?_)
        have ex_103 : x_103 = t1_c7 + 1 := ex_103
        have e_103 : x_103.toInt = t1_c7.toInt + 1 := by rw [ex_103]; exact zi_add (rfl) (by decide) (by omega) (by omega)
        clear ex_103
        refine lv_goto (tgt := 7) hx hb dX8_isLand_27 (by decide) ?_
        exact ih7 x_103 (upd g0_c7 (x_100 : Int32).toNatClampNeg 0) _ _ _ (show 0 ≤ x_103.toInt ∧ x_103.toInt ≤ 57 from by omega) ha_101 (fun q hq => zfz q0_c7 (by omega) (by omega) hq (by omega)) hf_102 (by omega) (hP.sub [0, 1, 2] rfl) (hD.sub [0, 1, 2] (by decide) rfl) hS (lv_sub hl [0, 1] rfl)
  exact hL7 (((57 - (0 : Int32).toInt).toNat) + 1) 0 sf _ _ _ (show 0 ≤ 0 ∧ 0 ≤ 57 from by omega) hsi (fun q hq => absurd hq (by have h7 : (0 : Int32).toInt = 0 := (by decide); omega)) FRM.refl (Nat.lt_succ_self _) (hP.sub [0, 1, 2] rfl) (hD.sub [0, 1, 2] (by decide) rfl) hS (lv_sub hl [0, 1] rfl)
set_option maxHeartbeats 4000000 in
set_option maxRecDepth 100000 in
theorem p_X6_append (l : Launch) (D : va_G) (cI cB cQ : ClassId) (sz : Nat) (h : Nat) (tb : Nat) (dr : Nat) (le : Int32) (lf : Int32) (fp : Int32) (pl : Int32) (fy : Int32) (v : Int32) (tf : Nat → Int32) (h_le : 0 ≤ le.toInt ∧ le.toInt ≤ 120) (h_fp : 0 ≤ fp.toInt ∧ fp.toInt ≤ 120) (h_pl : 0 ≤ pl.toInt ∧ pl.toInt ≤ 120) (h_x : le.toInt ≤ 119) : mi l yX6_append wsX6_append ({ frames := 0, cells := 0, slots := 0, locals := 0 }) D cI cB cQ [.ref h, .int v] sz [(h, .inr (5, [.ref tb, .ref dr, .int le, .int lf, .int fp, .int pl, .int fy])), (tb, .inl (cI, 120, .inl tf))] (fun (r : Int32) (u : Int32 × (Nat → Int32)) => (u.1.toInt = le.toInt + 1 ∧ r.toInt = le.toInt + 1) ∧ (0 ≤ u.1.toInt ∧ u.1.toInt ≤ 120) ∧ (u.2 = upd tf le.toNatClampNeg v)) (fun u => [(h, .inr (5, [.ref tb, .ref dr, .int u.1, .int lf, .int fp, .int pl, .int fy])), (tb, .inl (cI, 120, .inl u.2))]) 0 0 := by
  refine wm_i (cc := cX6_append) (maxL := 2) (ret := (some .int)) (by decide) rfl (Nat.le_of_ble_eq_true rfl) ?_
  intro p e s m below meth c A ls hx hb hr hml hown hts hlocks hin hP hK hD hN hA hl hS
  have hown : s.vm.findClass RX6 = some m.cls := hown
  have hl : lv_has ls 2 [(0, .ref h), (1, .int v)] := hl
  change W p l e ({ frames := 0, cells := 0, slots := 0, locals := 0 }) s m ([.ref h, .int v] : List Value).toArray below meth c s.heap [] 0 0 (MQ below (va_Qi (fun (r : Int32) (u : Int32 × (Nat → Int32)) => (u.1.toInt = le.toInt + 1 ∧ r.toInt = le.toInt + 1) ∧ (0 ≤ u.1.toInt ∧ u.1.toInt ≤ 120) ∧ (u.2 = upd tf le.toNatClampNeg v)) (fun u t => wb D A ((fun u => [(h, .inr (5, [.ref tb, .ref dr, .int u.1, .int lf, .int fp, .int pl, .int fy])), (tb, .inl (cI, 120, .inl u.2))]) u) t) A) ([.ref h, .int v] : List Value).toArray s 0 0 A) (F0 m 0 ls [])
  refine lv_aload_n hx hb dX6_append_0 rfl (lv_at hl 0 rfl) ?_
  refine va_get (D := D) (ci := 5) (v := .ref tb) (C := RX6) (T := TX6) (N := 7) hx hb hts (fun _ h => List.mem_cons_of_mem _ (List.mem_append_right _ h)) hown hK hP 0 rfl rfl 0 (by decide) (hts (.fieldLink RX6 11 "WinterWalk$Tape" "bytes" "[I") (List.mem_of_getElem? (i := 1) rfl)) (fun _ h9 => h9) rfl dX6_append_1 ?_
  refine lv_aload_n hx hb dX6_append_4 rfl (lv_at hl 0 rfl) ?_
  refine va_get (D := D) (ci := 5) (v := .int le) (C := RX6) (T := TX6) (N := 7) hx hb hts (fun _ h => List.mem_cons_of_mem _ (List.mem_append_right _ h)) hown hK hP 0 rfl rfl 2 (by decide) (hts (.fieldLink RX6 22 "WinterWalk$Tape" "length" "I") (List.mem_of_getElem? (i := 2) rfl)) (fun _ h9 => h9) rfl dX6_append_5 ?_
  refine lv_iload_n hx hb dX6_append_8 rfl (lv_at hl 1 rfl) ?_
  refine va_iast hx hb hK hP hD hS 1 0 rfl rfl (zi_in (by omega) (by omega)) dX6_append_9 (fun H locs hP hD hS => ?_)
  have hP : va_P D kl [(h, .inr (5, [.ref tb, .ref dr, .int le, .int lf, .int fp, .int pl, .int fy])), (tb, .inl (cI, 120, .inl (upd tf (le : Int32).toNatClampNeg v)))] H := hP
  have hD : va_D A [(h, .inr (5, [.ref tb, .ref dr, .int le, .int lf, .int fp, .int pl, .int fy])), (tb, .inl (cI, 120, .inl (upd tf (le : Int32).toNatClampNeg v)))] := hD
  refine lv_aload_n hx hb dX6_append_10 rfl (lv_at hl 0 rfl) ?_
  refine lv_dup hx hb dX6_append_11 rfl ?_
  refine va_get (D := D) (ci := 5) (v := .int le) (C := RX6) (T := TX6) (N := 7) hx hb hts (fun _ h => List.mem_cons_of_mem _ (List.mem_append_right _ h)) hown hK hP 0 rfl rfl 2 (by decide) (hts (.fieldLink RX6 22 "WinterWalk$Tape" "length" "I") (List.mem_of_getElem? (i := 2) rfl)) (fun _ h9 => h9) rfl dX6_append_12 ?_
  refine lv_iconst (v := 1) hx hb dX6_append_15 (by decide) ?_
  refine lv_iadd hx hb dX6_append_16 ?_
  refine lv_topi (fun x_1 ex_1 => ?_)
  have e_1 : x_1.toInt = le.toInt + 1 := by rw [ex_1]; exact zi_add (rfl) (by decide) (by omega) (by omega)
  clear ex_1
  refine va_put (D := D) (ci := 5) (v := .int x_1) (ty := .int) (C := RX6) (T := TX6) (N := 7) hx hb hts (fun _ h => List.mem_cons_of_mem _ (List.mem_append_right _ h)) tyX6 tyX6_ok nmX6 hown hK hP hD hS 0 rfl rfl 2 (by decide) (hts (.fieldLink RX6 22 "WinterWalk$Tape" "length" "I") (List.mem_of_getElem? (i := 2) rfl)) (fun _ h9 => h9) rfl (by decide +kernel) rfl rfl (Nat.le_of_ble_eq_true rfl) dX6_append_17 (fun H locs hP hD hS => ?_)
  have hP : va_P D kl [(h, .inr (5, [.ref tb, .ref dr, .int x_1, .int lf, .int fp, .int pl, .int fy])), (tb, .inl (cI, 120, .inl (upd tf (le : Int32).toNatClampNeg v)))] H := hP
  have hD : va_D A [(h, .inr (5, [.ref tb, .ref dr, .int x_1, .int lf, .int fp, .int pl, .int fy])), (tb, .inl (cI, 120, .inl (upd tf (le : Int32).toNatClampNeg v)))] := hD
  refine lv_aload_n hx hb dX6_append_20 rfl (lv_at hl 0 rfl) ?_
  refine va_get (D := D) (ci := 5) (v := .int x_1) (C := RX6) (T := TX6) (N := 7) hx hb hts (fun _ h => List.mem_cons_of_mem _ (List.mem_append_right _ h)) hown hK hP 0 rfl rfl 2 (by decide) (hts (.fieldLink RX6 22 "WinterWalk$Tape" "length" "I") (List.mem_of_getElem? (i := 2) rfl)) (fun _ h9 => h9) rfl dX6_append_21 ?_
  exact wr_i (v := x_1) hx hb hr hlocks hS (x_1, (upd tf (le : Int32).toNatClampNeg v)) (by exact ⟨show x_1.toInt = le.toInt + 1 ∧ x_1.toInt = le.toInt + 1 from by omega, show 0 ≤ (x_1 : Int32).toInt ∧ (x_1 : Int32).toInt ≤ 120 from by omega, rfl⟩) (hP.sub [0, 1] rfl) (hD.sub [0, 1] (by decide) rfl) dX6_append_24
set_option maxHeartbeats 4000000 in
set_option maxRecDepth 100000 in
theorem p_X7_feed (l : Launch) (D : va_G) (cI cB cQ : ClassId) (sz : Nat) (h : Nat) (rw : Nat) (tp : Nat) (nw : Nat) (ac : Nat) (im : Nat) (fo : Nat) (ak : Nat) (tb : Nat) (dr : Nat) (fg : Int32) (le : Int32) (lf : Int32) (fp : Int32) (pl : Int32) (fy : Int32) (v : Int32) (tf : Nat → Int32) (h_le : 0 ≤ le.toInt ∧ le.toInt ≤ 120) (h_fp : 0 ≤ fp.toInt ∧ fp.toInt ≤ 120) (h_pl : 0 ≤ pl.toInt ∧ pl.toInt ≤ 120) : mi l yX7_feed wsX7_feed ({ frames := 1, cells := 0, slots := 0, locals := 21 }) D cI cB cQ [.ref h, .int v] sz [(h, .inr (6, [.ref rw, .ref tp, .ref nw, .ref ac, .ref im, .ref fo, .ref ak, .int fg])), (tp, .inr (5, [.ref tb, .ref dr, .int le, .int lf, .int fp, .int pl, .int fy])), (tb, .inl (cI, 120, .inl tf))] (fun (r : Int32) (u : Int32 × (Nat → Int32)) => (((0 ≤ v.toInt ∧ v.toInt ≤ 255) ∧ le.toInt < 120 ∧ u.1.toInt = le.toInt + 1 ∧ r.toInt = le.toInt + 1) ∨ (¬ (0 ≤ v.toInt ∧ v.toInt ≤ 255) ∧ u.1.toInt = le.toInt ∧ r.toInt = (-1000001)) ∨ ((0 ≤ v.toInt ∧ v.toInt ≤ 255) ∧ 120 ≤ le.toInt ∧ u.1.toInt = le.toInt ∧ r.toInt = (-1000003))) ∧ (0 ≤ u.1.toInt ∧ u.1.toInt ≤ 120) ∧ (u.2 = rr_up ((0 ≤ v.toInt ∧ v.toInt ≤ 255) ∧ le.toInt < 120) tf le v)) (fun u => [(h, .inr (6, [.ref rw, .ref tp, .ref nw, .ref ac, .ref im, .ref fo, .ref ak, .int fg])), (tp, .inr (5, [.ref tb, .ref dr, .int u.1, .int lf, .int fp, .int pl, .int fy])), (tb, .inl (cI, 120, .inl u.2))]) 0 0 := by
  refine wm_i (cc := cX7_feed) (maxL := 2) (ret := (some .int)) (by decide) rfl (Nat.le_of_ble_eq_true rfl) ?_
  intro p e s m below meth c A ls hx hb hr hml hown hts hlocks hin hP hK hD hN hA hl hS
  have hown : s.vm.findClass RX7 = some m.cls := hown
  have hl : lv_has ls 2 [(0, .ref h), (1, .int v)] := hl
  change W p l e ({ frames := 1, cells := 0, slots := 0, locals := 21 }) s m ([.ref h, .int v] : List Value).toArray below meth c s.heap [] 0 0 (MQ below (va_Qi (fun (r : Int32) (u : Int32 × (Nat → Int32)) => (((0 ≤ v.toInt ∧ v.toInt ≤ 255) ∧ le.toInt < 120 ∧ u.1.toInt = le.toInt + 1 ∧ r.toInt = le.toInt + 1) ∨ (¬ (0 ≤ v.toInt ∧ v.toInt ≤ 255) ∧ u.1.toInt = le.toInt ∧ r.toInt = (-1000001)) ∨ ((0 ≤ v.toInt ∧ v.toInt ≤ 255) ∧ 120 ≤ le.toInt ∧ u.1.toInt = le.toInt ∧ r.toInt = (-1000003))) ∧ (0 ≤ u.1.toInt ∧ u.1.toInt ≤ 120) ∧ (u.2 = rr_up ((0 ≤ v.toInt ∧ v.toInt ≤ 255) ∧ le.toInt < 120) tf le v)) (fun u t => wb D A ((fun u => [(h, .inr (6, [.ref rw, .ref tp, .ref nw, .ref ac, .ref im, .ref fo, .ref ak, .int fg])), (tp, .inr (5, [.ref tb, .ref dr, .int u.1, .int lf, .int fp, .int pl, .int fy])), (tb, .inl (cI, 120, .inl u.2))]) u) t) A) ([.ref h, .int v] : List Value).toArray s 0 0 A) (F0 m 0 ls [])
  refine lv_iload_n hx hb dX7_feed_0 rfl (lv_at hl 1 rfl) ?_
  refine lv_if_lt (tgt := 11) hx hb dX7_feed_1 (by decide) (fun c_1 => ?_) (fun c_1 => ?_)
  · have f_1 : v.toInt < 0 := zi_lt c_1
    refine lv_ldc (v := (-1000001)) hx hb hown (hts (.constant RX7 68 (-1000001)) (List.mem_of_getElem? (i := 1) rfl)) dX7_feed_11 ?_
    exact wr_i (v := (-1000001)) hx hb hr hlocks hS (le, tf) (by exact ⟨show ((0 ≤ v.toInt ∧ v.toInt ≤ 255) ∧ le.toInt < 120 ∧ le.toInt = le.toInt + 1 ∧ (-1000001) = le.toInt + 1) ∨ (¬ (0 ≤ v.toInt ∧ v.toInt ≤ 255) ∧ le.toInt = le.toInt ∧ (-1000001) = (-1000001)) ∨ ((0 ≤ v.toInt ∧ v.toInt ≤ 255) ∧ 120 ≤ le.toInt ∧ le.toInt = le.toInt ∧ (-1000001) = (-1000003)) from by omega, show 0 ≤ (le : Int32).toInt ∧ (le : Int32).toInt ≤ 120 from by omega, (rr_neg (show ¬ ((0 ≤ v.toInt ∧ v.toInt ≤ 255) ∧ le.toInt < 120) from by omega)).symm⟩) (hP.sub [0, 1, 2] rfl) (hD.sub [0, 1, 2] (by decide) rfl) dX7_feed_13
  · have f_1 : ¬ v.toInt < 0 := zi_nlt c_1
    refine lv_iload_n hx hb dX7_feed_4 rfl (lv_at hl 1 rfl) ?_
    refine lv_sipush (v := 255) hx hb dX7_feed_5 (by decide) ?_
    refine lv_icmp_le (tgt := 14) hx hb dX7_feed_8 (by decide) (fun c_2 => ?_) (fun c_2 => ?_)
    · have f_2 : v.toInt ≤ 255 := zi_le c_2
      refine lv_aload_n hx hb dX7_feed_14 rfl (lv_at hl 0 rfl) ?_
      refine va_get (D := D) (ci := 6) (v := .ref tp) (C := RX7) (T := TX7) (N := 8) hx hb hts (fun _ h => List.mem_cons_of_mem _ (List.mem_append_left _ (List.mem_append_right _ h))) hown hK hP 0 rfl rfl 1 (by decide) (hts (.fieldLink RX7 19 "WinterWalk" "tape" "LWinterWalk$Tape;") (List.mem_of_getElem? (i := 2) rfl)) (fun _ h9 => h9) rfl dX7_feed_15 ?_
      have k_3 := (g_X6_isFull l D cI cB cQ s.heap.size tp tb dr le lf fp pl fy)
      refine wc_i (WC := [(tp, .inr (5, [.ref tb, .ref dr, .int le, .int lf, .int fp, .int pl, .int fy]))]) (WR := [(h, .inr (6, [.ref rw, .ref tp, .ref nw, .ref ac, .ref im, .ref fo, .ref ak, .int fg])), (tb, .inl (cI, 120, .inl tf))]) (va_runV (As := []) (rest := []) ⟨hx, hb, hml, hown, hts⟩ k_3 (cwV 0 hts gX7_feed_X6_isFull rfl rfl rfl (by decide +kernel) ⟨Nat.le_of_ble_eq_true rfl, Nat.le_of_ble_eq_true rfl⟩) (wp_V hP hK hD hN [1] (by decide) rfl (ci := 5) rfl rfl) rfl rfl hl.1 rfl (lv_room (Nat.le_of_ble_eq_true rfl)) dX7_feed_18 ⟨Nat.le_of_ble_eq_true rfl, Nat.le_of_ble_eq_true rfl⟩) hP hD hS hA [1] [0, 2] rfl rfl (by decide) (by decide) (fun r_3 u_3 H locs hw_3 hP hD hS => ?_)
      clear k_3
      have hP : va_P D kl [(h, .inr (6, [.ref rw, .ref tp, .ref nw, .ref ac, .ref im, .ref fo, .ref ak, .int fg])), (tb, .inl (cI, 120, .inl tf)), (tp, .inr (5, [.ref tb, .ref dr, .int le, .int lf, .int fp, .int pl, .int fy]))] H := hP
      have hD : va_D A [(h, .inr (6, [.ref rw, .ref tp, .ref nw, .ref ac, .ref im, .ref fo, .ref ak, .int fg])), (tb, .inl (cI, 120, .inl tf)), (tp, .inr (5, [.ref tb, .ref dr, .int le, .int lf, .int fp, .int pl, .int fy]))] := hD
      have c3_0 := hw_3
      rcases c3_0 with ⟨e_3, f_3⟩ | ⟨e_3, f_3⟩
      · subst e_3
        have f_3 : 120 ≤ le.toInt := f_3
        refine lv_if_eq (tgt := 27) hx hb dX7_feed_21 (by decide) (fun c9 => absurd c9 (by decide)) (fun _ => ?_)
        refine lv_ldc (v := (-1000003)) hx hb hown (hts (.constant RX7 105 (-1000003)) (List.mem_of_getElem? (i := 3) rfl)) dX7_feed_24 ?_
        exact wr_i (v := (-1000003)) hx hb hr hlocks hS (le, tf) (by exact ⟨show ((0 ≤ v.toInt ∧ v.toInt ≤ 255) ∧ le.toInt < 120 ∧ le.toInt = le.toInt + 1 ∧ (-1000003) = le.toInt + 1) ∨ (¬ (0 ≤ v.toInt ∧ v.toInt ≤ 255) ∧ le.toInt = le.toInt ∧ (-1000003) = (-1000001)) ∨ ((0 ≤ v.toInt ∧ v.toInt ≤ 255) ∧ 120 ≤ le.toInt ∧ le.toInt = le.toInt ∧ (-1000003) = (-1000003)) from by omega, show 0 ≤ (le : Int32).toInt ∧ (le : Int32).toInt ≤ 120 from by omega, (rr_neg (show ¬ ((0 ≤ v.toInt ∧ v.toInt ≤ 255) ∧ le.toInt < 120) from by omega)).symm⟩) (hP.sub [0, 2, 1] rfl) (hD.sub [0, 2, 1] (by decide) rfl) dX7_feed_26
      · subst e_3
        have f_3 : ¬ 120 ≤ le.toInt := f_3
        refine lv_if_eq (tgt := 27) hx hb dX7_feed_21 (by decide) (fun _ => ?_) (fun c9 => absurd (by decide) c9)
        refine lv_aload_n hx hb dX7_feed_27 rfl (lv_at hl 0 rfl) ?_
        refine va_get (D := D) (ci := 6) (v := .ref tp) (C := RX7) (T := TX7) (N := 8) hx hb hts (fun _ h => List.mem_cons_of_mem _ (List.mem_append_left _ (List.mem_append_right _ h))) hown hK hP 0 rfl rfl 1 (by decide) (hts (.fieldLink RX7 19 "WinterWalk" "tape" "LWinterWalk$Tape;") (List.mem_of_getElem? (i := 2) rfl)) (fun _ h9 => h9) rfl dX7_feed_28 ?_
        refine lv_iload_n hx hb dX7_feed_31 rfl (lv_at hl 1 rfl) ?_
        have k_4 := (p_X6_append l D cI cB cQ H.size tp tb dr le lf fp pl fy v tf (by omega) (by omega) (by omega) (by omega))
        refine wc_i (WC := [(tp, .inr (5, [.ref tb, .ref dr, .int le, .int lf, .int fp, .int pl, .int fy])), (tb, .inl (cI, 120, .inl tf))]) (WR := [(h, .inr (6, [.ref rw, .ref tp, .ref nw, .ref ac, .ref im, .ref fo, .ref ak, .int fg]))]) (va_runV (As := [.int v]) (rest := []) ⟨hx, hb, hml, hown, hts⟩ k_4 (cwV 1 hts gX7_feed_X6_append rfl rfl rfl (by decide +kernel) ⟨Nat.le_of_ble_eq_true rfl, Nat.le_of_ble_eq_true rfl⟩) (wp_V hP hK hD hN [2, 1] (by decide) rfl (ci := 5) rfl rfl) rfl rfl hl.1 rfl (lv_room (Nat.le_of_ble_eq_true rfl)) dX7_feed_32 ⟨Nat.le_of_ble_eq_true rfl, Nat.le_of_ble_eq_true rfl⟩) hP hD hS hA [2, 1] [0] rfl rfl (by decide) (by decide) (fun r_4 => pe2 (fun v4_0 v4_1 H locs hw_4 hP hD hS => ?_))
        clear k_4
        have hP : va_P D kl [(h, .inr (6, [.ref rw, .ref tp, .ref nw, .ref ac, .ref im, .ref fo, .ref ak, .int fg])), (tp, .inr (5, [.ref tb, .ref dr, .int v4_0, .int lf, .int fp, .int pl, .int fy])), (tb, .inl (cI, 120, .inl v4_1))] H := hP
        have hD : va_D A [(h, .inr (6, [.ref rw, .ref tp, .ref nw, .ref ac, .ref im, .ref fo, .ref ak, .int fg])), (tp, .inr (5, [.ref tb, .ref dr, .int v4_0, .int lf, .int fp, .int pl, .int fy])), (tb, .inl (cI, 120, .inl v4_1))] := hD
        obtain ⟨c4_0, c4_1, c4_2⟩ := hw_4
        have c4_0 : v4_0.toInt = le.toInt + 1 ∧ r_4.toInt = le.toInt + 1 := c4_0
        have c4_1 : 0 ≤ v4_0.toInt ∧ v4_0.toInt ≤ 120 := c4_1
        subst c4_2
        exact wr_i (v := r_4) hx hb hr hlocks hS (v4_0, (upd tf le.toNatClampNeg v)) (by exact ⟨show ((0 ≤ v.toInt ∧ v.toInt ≤ 255) ∧ le.toInt < 120 ∧ v4_0.toInt = le.toInt + 1 ∧ r_4.toInt = le.toInt + 1) ∨ (¬ (0 ≤ v.toInt ∧ v.toInt ≤ 255) ∧ v4_0.toInt = le.toInt ∧ r_4.toInt = (-1000001)) ∨ ((0 ≤ v.toInt ∧ v.toInt ≤ 255) ∧ 120 ≤ le.toInt ∧ v4_0.toInt = le.toInt ∧ r_4.toInt = (-1000003)) from by omega, show 0 ≤ (v4_0 : Int32).toInt ∧ (v4_0 : Int32).toInt ≤ 120 from by omega, (rr_pos (show (0 ≤ v.toInt ∧ v.toInt ≤ 255) ∧ le.toInt < 120 from by omega)).symm⟩) (hP.sub [0, 1, 2] rfl) (hD.sub [0, 1, 2] (by decide) rfl) dX7_feed_35
    · have f_2 : ¬ v.toInt ≤ 255 := zi_nle c_2
      refine lv_ldc (v := (-1000001)) hx hb hown (hts (.constant RX7 68 (-1000001)) (List.mem_of_getElem? (i := 1) rfl)) dX7_feed_11 ?_
      exact wr_i (v := (-1000001)) hx hb hr hlocks hS (le, tf) (by exact ⟨show ((0 ≤ v.toInt ∧ v.toInt ≤ 255) ∧ le.toInt < 120 ∧ le.toInt = le.toInt + 1 ∧ (-1000001) = le.toInt + 1) ∨ (¬ (0 ≤ v.toInt ∧ v.toInt ≤ 255) ∧ le.toInt = le.toInt ∧ (-1000001) = (-1000001)) ∨ ((0 ≤ v.toInt ∧ v.toInt ≤ 255) ∧ 120 ≤ le.toInt ∧ le.toInt = le.toInt ∧ (-1000001) = (-1000003)) from by omega, show 0 ≤ (le : Int32).toInt ∧ (le : Int32).toInt ≤ 120 from by omega, (rr_neg (show ¬ ((0 ≤ v.toInt ∧ v.toInt ≤ 255) ∧ le.toInt < 120) from by omega)).symm⟩) (hP.sub [0, 1, 2] rfl) (hD.sub [0, 1, 2] (by decide) rfl) dX7_feed_13
set_option maxHeartbeats 4000000 in
set_option maxRecDepth 100000 in
theorem p_X8_feed (l : Launch) (D : va_G) (cI cB cQ : ClassId) (sz : Nat) (h : Nat) (sl : Nat) (zs : Nat) (ln : Nat) (ir : Nat) (tk : Nat) (tb : Nat) (tr : Nat) (fz : Nat) (na : Int32) (su : Int32) (le : Int32) (fu : Int32) (ap : Int32) (pp : Int32) (tc : Int32) (nm : Int32) (v : Int32) (tbf : Nat → Int32) (h_na : 0 ≤ na.toInt ∧ na.toInt ≤ 24) (h_le : 0 ≤ le.toInt ∧ le.toInt ≤ 120) (h_ap : 0 ≤ ap.toInt ∧ ap.toInt ≤ 120) (h_tc : 0 ≤ tc.toInt ∧ tc.toInt ≤ 16) (h_pp : 0 ≤ pp.toInt ∧ pp.toInt ≤ 120) : mi l yX8_feed wsX8_feed ({ frames := 1, cells := 0, slots := 0, locals := 25 }) D cI cB cQ [.ref h, .int v] sz [(h, .inr (7, [.ref sl, .int na, .ref zs, .ref ln, .ref ir, .ref tk, .int su, .int le, .ref tb, .int fu, .int ap, .int pp, .ref tr, .int tc, .ref fz, .int nm])), (tb, .inl (cB, 120, .inl tbf))] (fun (r : Int32) (u : Int32 × (Nat → Int32)) => (((0 ≤ v.toInt ∧ v.toInt ≤ 255) ∧ le.toInt < 120 ∧ u.1.toInt = le.toInt + 1 ∧ r.toInt = le.toInt + 1) ∨ (¬ (0 ≤ v.toInt ∧ v.toInt ≤ 255) ∧ u.1.toInt = le.toInt ∧ r.toInt = (-1000001)) ∨ ((0 ≤ v.toInt ∧ v.toInt ≤ 255) ∧ 120 ≤ le.toInt ∧ u.1.toInt = le.toInt ∧ r.toInt = (-1000003))) ∧ (0 ≤ u.1.toInt ∧ u.1.toInt ≤ 120) ∧ (u.2 = rr_up ((0 ≤ v.toInt ∧ v.toInt ≤ 255) ∧ le.toInt < 120) tbf le (vp_nar .byte v.toInt8.toInt32))) (fun u => [(h, .inr (7, [.ref sl, .int na, .ref zs, .ref ln, .ref ir, .ref tk, .int su, .int u.1, .ref tb, .int fu, .int ap, .int pp, .ref tr, .int tc, .ref fz, .int nm])), (tb, .inl (cB, 120, .inl u.2))]) 0 0 := by
  refine wm_i (cc := cX8_feed) (maxL := 2) (ret := (some .int)) (by decide) rfl (Nat.le_of_ble_eq_true rfl) ?_
  intro p e s m below meth c A ls hx hb hr hml hown hts hlocks hin hP hK hD hN hA hl hS
  have hown : s.vm.findClass RX8 = some m.cls := hown
  have hl : lv_has ls 2 [(0, .ref h), (1, .int v)] := hl
  change W p l e ({ frames := 1, cells := 0, slots := 0, locals := 25 }) s m ([.ref h, .int v] : List Value).toArray below meth c s.heap [] 0 0 (MQ below (va_Qi (fun (r : Int32) (u : Int32 × (Nat → Int32)) => (((0 ≤ v.toInt ∧ v.toInt ≤ 255) ∧ le.toInt < 120 ∧ u.1.toInt = le.toInt + 1 ∧ r.toInt = le.toInt + 1) ∨ (¬ (0 ≤ v.toInt ∧ v.toInt ≤ 255) ∧ u.1.toInt = le.toInt ∧ r.toInt = (-1000001)) ∨ ((0 ≤ v.toInt ∧ v.toInt ≤ 255) ∧ 120 ≤ le.toInt ∧ u.1.toInt = le.toInt ∧ r.toInt = (-1000003))) ∧ (0 ≤ u.1.toInt ∧ u.1.toInt ≤ 120) ∧ (u.2 = rr_up ((0 ≤ v.toInt ∧ v.toInt ≤ 255) ∧ le.toInt < 120) tbf le (vp_nar .byte v.toInt8.toInt32))) (fun u t => wb D A ((fun u => [(h, .inr (7, [.ref sl, .int na, .ref zs, .ref ln, .ref ir, .ref tk, .int su, .int u.1, .ref tb, .int fu, .int ap, .int pp, .ref tr, .int tc, .ref fz, .int nm])), (tb, .inl (cB, 120, .inl u.2))]) u) t) A) ([.ref h, .int v] : List Value).toArray s 0 0 A) (F0 m 0 ls [])
  refine lv_iload_n hx hb dX8_feed_0 rfl (lv_at hl 1 rfl) ?_
  refine lv_i2l (v := (v.toInt64)) hx hb dX8_feed_1 rfl ?_
  refine lv_lconst (v := 0) hx hb dX8_feed_2 (by decide) ?_
  refine lv_ldc2 (v := 255) hx hb hown (hts (.constantLong RX8 56 (255)) (List.mem_of_getElem? (i := 1) rfl)) dX8_feed_3 ?_
  have k_1 := (g_X8_in l D cI cB cQ s.heap.size (v.toInt64) 0 255)
  refine wc_i (WC := []) (WR := [(h, .inr (7, [.ref sl, .int na, .ref zs, .ref ln, .ref ir, .ref tk, .int su, .int le, .ref tb, .int fu, .int ap, .int pp, .ref tr, .int tc, .ref fz, .int nm])), (tb, .inl (cB, 120, .inl tbf))]) (va_runS (As := [.long (v.toInt64), .long 0, .long 255]) (rest := []) ⟨hx, hb, hml, hown, hts⟩ k_1 (va_cwS 3 hts gX8_feed_X8_in rfl rfl rfl (by decide +kernel) ⟨Nat.le_of_ble_eq_true rfl, Nat.le_of_ble_eq_true rfl⟩) (wp_S hP hK hD hN [] (by decide) rfl) rfl rfl hl.1 rfl (lv_room (Nat.le_of_ble_eq_true rfl)) dX8_feed_6 ⟨Nat.le_of_ble_eq_true rfl, Nat.le_of_ble_eq_true rfl⟩) hP hD hS hA [] [0, 1] rfl rfl (by decide) (by decide) (fun r_1 u_1 H locs hw_1 hP hD hS => ?_)
  clear k_1
  have hP : va_P D kl [(h, .inr (7, [.ref sl, .int na, .ref zs, .ref ln, .ref ir, .ref tk, .int su, .int le, .ref tb, .int fu, .int ap, .int pp, .ref tr, .int tc, .ref fz, .int nm])), (tb, .inl (cB, 120, .inl tbf))] H := hP
  have hD : va_D A [(h, .inr (7, [.ref sl, .int na, .ref zs, .ref ln, .ref ir, .ref tk, .int su, .int le, .ref tb, .int fu, .int ap, .int pp, .ref tr, .int tc, .ref fz, .int nm])), (tb, .inl (cB, 120, .inl tbf))] := hD
  have c1_0 := hw_1
  rcases c1_0 with ⟨e_1, f_1⟩ | ⟨e_1, f_1⟩
  · subst e_1
    have f_1 : (0 : Int) ≤ v.toInt ∧ v.toInt ≤ (255 : Int) := by
      have h8 := f_1
      try simp only [zl_of] at h8
      exact h8
    refine lv_if_ne (tgt := 15) hx hb dX8_feed_9 (by decide) (fun _ => ?_) (fun c9 => absurd c9 (by decide))
    refine lv_aload_n hx hb dX8_feed_15 rfl (lv_at hl 0 rfl) ?_
    refine va_get (D := D) (ci := 7) (v := .int le) (C := RX8) (T := TX8) (N := 16) hx hb hts (fun _ h => List.mem_cons_of_mem _ (List.mem_append_right _ h)) hown hK hP 0 rfl rfl 7 (by decide) (hts (.fieldLink RX8 58 "WinterWalkModel" "length" "I") (List.mem_of_getElem? (i := 3) rfl)) (fun _ h9 => h9) rfl dX8_feed_16 ?_
    refine lv_bipush (v := 120) hx hb dX8_feed_19 (by decide) ?_
    refine lv_icmp_ne (tgt := 27) hx hb dX8_feed_21 (by decide) (fun c_2 => ?_) (fun c_2 => ?_)
    · have f_2 : ¬ le.toInt = 120 := zi_ne c_2
      refine lv_aload_n hx hb dX8_feed_27 rfl (lv_at hl 0 rfl) ?_
      refine va_get (D := D) (ci := 7) (v := .ref tb) (C := RX8) (T := TX8) (N := 16) hx hb hts (fun _ h => List.mem_cons_of_mem _ (List.mem_append_right _ h)) hown hK hP 0 rfl rfl 8 (by decide) (hts (.fieldLink RX8 25 "WinterWalkModel" "tape" "[B") (List.mem_of_getElem? (i := 5) rfl)) (fun _ h9 => h9) rfl dX8_feed_28 ?_
      refine lv_aload_n hx hb dX8_feed_31 rfl (lv_at hl 0 rfl) ?_
      refine va_get (D := D) (ci := 7) (v := .int le) (C := RX8) (T := TX8) (N := 16) hx hb hts (fun _ h => List.mem_cons_of_mem _ (List.mem_append_right _ h)) hown hK hP 0 rfl rfl 7 (by decide) (hts (.fieldLink RX8 58 "WinterWalkModel" "length" "I") (List.mem_of_getElem? (i := 3) rfl)) (fun _ h9 => h9) rfl dX8_feed_32 ?_
      refine lv_iload_n hx hb dX8_feed_35 rfl (lv_at hl 1 rfl) ?_
      refine lv_i2b (v := (v).toInt8.toInt32) hx hb dX8_feed_36 rfl ?_
      refine va_bast hx hb hK hP hD hS 1 1 rfl rfl (zi_in (by omega) (by omega)) dX8_feed_37 (fun H locs hP hD hS => ?_)
      have hP : va_P D kl [(h, .inr (7, [.ref sl, .int na, .ref zs, .ref ln, .ref ir, .ref tk, .int su, .int le, .ref tb, .int fu, .int ap, .int pp, .ref tr, .int tc, .ref fz, .int nm])), (tb, .inl (cB, 120, .inl (upd tbf (le : Int32).toNatClampNeg (vp_nar .byte (v.toInt8.toInt32)))))] H := hP
      have hD : va_D A [(h, .inr (7, [.ref sl, .int na, .ref zs, .ref ln, .ref ir, .ref tk, .int su, .int le, .ref tb, .int fu, .int ap, .int pp, .ref tr, .int tc, .ref fz, .int nm])), (tb, .inl (cB, 120, .inl (upd tbf (le : Int32).toNatClampNeg (vp_nar .byte (v.toInt8.toInt32)))))] := hD
      refine lv_aload_n hx hb dX8_feed_38 rfl (lv_at hl 0 rfl) ?_
      refine lv_dup hx hb dX8_feed_39 rfl ?_
      refine va_get (D := D) (ci := 7) (v := .int le) (C := RX8) (T := TX8) (N := 16) hx hb hts (fun _ h => List.mem_cons_of_mem _ (List.mem_append_right _ h)) hown hK hP 0 rfl rfl 7 (by decide) (hts (.fieldLink RX8 58 "WinterWalkModel" "length" "I") (List.mem_of_getElem? (i := 3) rfl)) (fun _ h9 => h9) rfl dX8_feed_40 ?_
      refine lv_iconst (v := 1) hx hb dX8_feed_43 (by decide) ?_
      refine lv_iadd hx hb dX8_feed_44 ?_
      refine lv_topi (fun x_3 ex_3 => ?_)
      have e_3 : x_3.toInt = le.toInt + 1 := by rw [ex_3]; exact zi_add (rfl) (by decide) (by omega) (by omega)
      clear ex_3
      refine va_put (D := D) (ci := 7) (v := .int x_3) (ty := .int) (C := RX8) (T := TX8) (N := 16) hx hb hts (fun _ h => List.mem_cons_of_mem _ (List.mem_append_right _ h)) tyX8 tyX8_ok nmX8 hown hK hP hD hS 0 rfl rfl 7 (by decide) (hts (.fieldLink RX8 58 "WinterWalkModel" "length" "I") (List.mem_of_getElem? (i := 3) rfl)) (fun _ h9 => h9) rfl (by decide +kernel) rfl rfl (Nat.le_of_ble_eq_true rfl) dX8_feed_45 (fun H locs hP hD hS => ?_)
      have hP : va_P D kl [(h, .inr (7, [.ref sl, .int na, .ref zs, .ref ln, .ref ir, .ref tk, .int su, .int x_3, .ref tb, .int fu, .int ap, .int pp, .ref tr, .int tc, .ref fz, .int nm])), (tb, .inl (cB, 120, .inl (upd tbf (le : Int32).toNatClampNeg (vp_nar .byte (v.toInt8.toInt32)))))] H := hP
      have hD : va_D A [(h, .inr (7, [.ref sl, .int na, .ref zs, .ref ln, .ref ir, .ref tk, .int su, .int x_3, .ref tb, .int fu, .int ap, .int pp, .ref tr, .int tc, .ref fz, .int nm])), (tb, .inl (cB, 120, .inl (upd tbf (le : Int32).toNatClampNeg (vp_nar .byte (v.toInt8.toInt32)))))] := hD
      refine lv_aload_n hx hb dX8_feed_48 rfl (lv_at hl 0 rfl) ?_
      refine va_get (D := D) (ci := 7) (v := .int x_3) (C := RX8) (T := TX8) (N := 16) hx hb hts (fun _ h => List.mem_cons_of_mem _ (List.mem_append_right _ h)) hown hK hP 0 rfl rfl 7 (by decide) (hts (.fieldLink RX8 58 "WinterWalkModel" "length" "I") (List.mem_of_getElem? (i := 3) rfl)) (fun _ h9 => h9) rfl dX8_feed_49 ?_
      exact wr_i (v := x_3) hx hb hr hlocks hS (x_3, (upd tbf (le : Int32).toNatClampNeg (vp_nar .byte (v.toInt8.toInt32)))) (by exact ⟨show ((0 ≤ v.toInt ∧ v.toInt ≤ 255) ∧ le.toInt < 120 ∧ x_3.toInt = le.toInt + 1 ∧ x_3.toInt = le.toInt + 1) ∨ (¬ (0 ≤ v.toInt ∧ v.toInt ≤ 255) ∧ x_3.toInt = le.toInt ∧ x_3.toInt = (-1000001)) ∨ ((0 ≤ v.toInt ∧ v.toInt ≤ 255) ∧ 120 ≤ le.toInt ∧ x_3.toInt = le.toInt ∧ x_3.toInt = (-1000003)) from by omega, show 0 ≤ (x_3 : Int32).toInt ∧ (x_3 : Int32).toInt ≤ 120 from by omega, (rr_pos (show (0 ≤ v.toInt ∧ v.toInt ≤ 255) ∧ le.toInt < 120 from by omega)).symm⟩) (hP.sub [0, 1] rfl) (hD.sub [0, 1] (by decide) rfl) dX8_feed_52
    · have f_2 : le.toInt = 120 := zi_eq c_2
      refine lv_ldc (v := (-1000003)) hx hb hown (hts (.constant RX8 61 (-1000003)) (List.mem_of_getElem? (i := 4) rfl)) dX8_feed_24 ?_
      exact wr_i (v := (-1000003)) hx hb hr hlocks hS (le, tbf) (by exact ⟨show ((0 ≤ v.toInt ∧ v.toInt ≤ 255) ∧ le.toInt < 120 ∧ le.toInt = le.toInt + 1 ∧ (-1000003) = le.toInt + 1) ∨ (¬ (0 ≤ v.toInt ∧ v.toInt ≤ 255) ∧ le.toInt = le.toInt ∧ (-1000003) = (-1000001)) ∨ ((0 ≤ v.toInt ∧ v.toInt ≤ 255) ∧ 120 ≤ le.toInt ∧ le.toInt = le.toInt ∧ (-1000003) = (-1000003)) from by omega, show 0 ≤ (le : Int32).toInt ∧ (le : Int32).toInt ≤ 120 from by omega, (rr_neg (show ¬ ((0 ≤ v.toInt ∧ v.toInt ≤ 255) ∧ le.toInt < 120) from by omega)).symm⟩) (hP.sub [0, 1] rfl) (hD.sub [0, 1] (by decide) rfl) dX8_feed_26
  · subst e_1
    have f_1 : ¬ ((0 : Int) ≤ v.toInt ∧ v.toInt ≤ (255 : Int)) := by
      have h8 := f_1
      try simp only [zl_of] at h8
      exact h8
    refine lv_if_ne (tgt := 15) hx hb dX8_feed_9 (by decide) (fun c9 => absurd (by decide) c9) (fun _ => ?_)
    refine lv_ldc (v := (-1000001)) hx hb hown (hts (.constant RX8 48 (-1000001)) (List.mem_of_getElem? (i := 2) rfl)) dX8_feed_12 ?_
    exact wr_i (v := (-1000001)) hx hb hr hlocks hS (le, tbf) (by exact ⟨show ((0 ≤ v.toInt ∧ v.toInt ≤ 255) ∧ le.toInt < 120 ∧ le.toInt = le.toInt + 1 ∧ (-1000001) = le.toInt + 1) ∨ (¬ (0 ≤ v.toInt ∧ v.toInt ≤ 255) ∧ le.toInt = le.toInt ∧ (-1000001) = (-1000001)) ∨ ((0 ≤ v.toInt ∧ v.toInt ≤ 255) ∧ 120 ≤ le.toInt ∧ le.toInt = le.toInt ∧ (-1000001) = (-1000003)) from by omega, show 0 ≤ (le : Int32).toInt ∧ (le : Int32).toInt ≤ 120 from by omega, (rr_neg (show ¬ ((0 ≤ v.toInt ∧ v.toInt ≤ 255) ∧ le.toInt < 120) from by omega)).symm⟩) (hP.sub [0, 1] rfl) (hD.sub [0, 1] (by decide) rfl) dX8_feed_14
set_option maxHeartbeats 4000000 in
set_option maxRecDepth 100000 in
theorem p_X7_fault (l : Launch) (D : va_G) (cI cB cQ : ClassId) (sz : Nat) (h : Nat) (rw : Nat) (tp : Nat) (nw : Nat) (ac : Nat) (im : Nat) (fo : Nat) (ak : Nat) (tb : Nat) (dr : Nat) (fg : Int32) (le : Int32) (lf : Int32) (fp : Int32) (pl : Int32) (fy : Int32) : mi l yX7_fault wsX7_fault ({ frames := 0, cells := 0, slots := 0, locals := 0 }) D cI cB cQ [.ref h] sz [(h, .inr (6, [.ref rw, .ref tp, .ref nw, .ref ac, .ref im, .ref fo, .ref ak, .int fg])), (tp, .inr (5, [.ref tb, .ref dr, .int le, .int lf, .int fp, .int pl, .int fy]))] (fun (r : Int32) (_u : Unit) => (r.toInt = lf.toInt)) (fun _ => [(h, .inr (6, [.ref rw, .ref tp, .ref nw, .ref ac, .ref im, .ref fo, .ref ak, .int fg])), (tp, .inr (5, [.ref tb, .ref dr, .int le, .int lf, .int fp, .int pl, .int fy]))]) 0 0 := by
  refine wm_i (cc := cX7_fault) (maxL := 1) (ret := (some .int)) (by decide) rfl (Nat.le_of_ble_eq_true rfl) ?_
  intro p e s m below meth c A ls hx hb hr hml hown hts hlocks hin hP hK hD hN hA hl hS
  have hown : s.vm.findClass RX7 = some m.cls := hown
  have hl : lv_has ls 1 [(0, .ref h)] := hl
  change W p l e ({ frames := 0, cells := 0, slots := 0, locals := 0 }) s m ([.ref h] : List Value).toArray below meth c s.heap [] 0 0 (MQ below (va_Qi (fun (r : Int32) (_u : Unit) => (r.toInt = lf.toInt)) (fun u t => wb D A ((fun _ => [(h, .inr (6, [.ref rw, .ref tp, .ref nw, .ref ac, .ref im, .ref fo, .ref ak, .int fg])), (tp, .inr (5, [.ref tb, .ref dr, .int le, .int lf, .int fp, .int pl, .int fy]))]) u) t) A) ([.ref h] : List Value).toArray s 0 0 A) (F0 m 0 ls [])
  refine lv_aload_n hx hb dX7_fault_0 rfl (lv_at hl 0 rfl) ?_
  refine va_get (D := D) (ci := 6) (v := .ref tp) (C := RX7) (T := TX7) (N := 8) hx hb hts (fun _ h => List.mem_cons_of_mem _ (List.mem_append_left _ (List.mem_append_right _ h))) hown hK hP 0 rfl rfl 1 (by decide) (hts (.fieldLink RX7 19 "WinterWalk" "tape" "LWinterWalk$Tape;") (List.mem_of_getElem? (i := 1) rfl)) (fun _ h9 => h9) rfl dX7_fault_1 ?_
  refine va_get (D := D) (ci := 5) (v := .int lf) (C := RX6) (T := TX6) (N := 7) hx hb hts (fun _ h => List.mem_cons_of_mem _ (List.mem_append_right _ h)) hown hK hP 1 rfl rfl 3 (by decide) (hts (.fieldLink RX7 123 "WinterWalk$Tape" "latestFault" "I") (List.mem_of_getElem? (i := 2) rfl)) (fun _ h9 => h9) rfl dX7_fault_4 ?_
  exact wr_i (v := lf) hx hb hr hlocks hS () (by exact show lf.toInt = lf.toInt from by omega) (hP.sub [0, 1] rfl) (hD.sub [0, 1] (by decide) rfl) dX7_fault_7
set_option maxHeartbeats 4000000 in
set_option maxRecDepth 100000 in
theorem p_X8_fault (l : Launch) (D : va_G) (cI cB cQ : ClassId) (sz : Nat) (h : Nat) (sl : Nat) (zs : Nat) (ln : Nat) (ir : Nat) (tk : Nat) (tb : Nat) (tr : Nat) (fz : Nat) (na : Int32) (su : Int32) (le : Int32) (fu : Int32) (ap : Int32) (pp : Int32) (tc : Int32) (nm : Int32) : mi l yX8_fault wsX8_fault ({ frames := 0, cells := 0, slots := 0, locals := 0 }) D cI cB cQ [.ref h] sz [(h, .inr (7, [.ref sl, .int na, .ref zs, .ref ln, .ref ir, .ref tk, .int su, .int le, .ref tb, .int fu, .int ap, .int pp, .ref tr, .int tc, .ref fz, .int nm]))] (fun (r : Int32) (_u : Unit) => (r.toInt = fu.toInt)) (fun _ => [(h, .inr (7, [.ref sl, .int na, .ref zs, .ref ln, .ref ir, .ref tk, .int su, .int le, .ref tb, .int fu, .int ap, .int pp, .ref tr, .int tc, .ref fz, .int nm]))]) 0 0 := by
  refine wm_i (cc := cX8_fault) (maxL := 1) (ret := (some .int)) (by decide) rfl (Nat.le_of_ble_eq_true rfl) ?_
  intro p e s m below meth c A ls hx hb hr hml hown hts hlocks hin hP hK hD hN hA hl hS
  have hown : s.vm.findClass RX8 = some m.cls := hown
  have hl : lv_has ls 1 [(0, .ref h)] := hl
  change W p l e ({ frames := 0, cells := 0, slots := 0, locals := 0 }) s m ([.ref h] : List Value).toArray below meth c s.heap [] 0 0 (MQ below (va_Qi (fun (r : Int32) (_u : Unit) => (r.toInt = fu.toInt)) (fun u t => wb D A ((fun _ => [(h, .inr (7, [.ref sl, .int na, .ref zs, .ref ln, .ref ir, .ref tk, .int su, .int le, .ref tb, .int fu, .int ap, .int pp, .ref tr, .int tc, .ref fz, .int nm]))]) u) t) A) ([.ref h] : List Value).toArray s 0 0 A) (F0 m 0 ls [])
  refine lv_aload_n hx hb dX8_fault_0 rfl (lv_at hl 0 rfl) ?_
  refine va_get (D := D) (ci := 7) (v := .int fu) (C := RX8) (T := TX8) (N := 16) hx hb hts (fun _ h => List.mem_cons_of_mem _ (List.mem_append_right _ h)) hown hK hP 0 rfl rfl 9 (by decide) (hts (.fieldLink RX8 65 "WinterWalkModel" "fault" "I") (List.mem_of_getElem? (i := 1) rfl)) (fun _ h9 => h9) rfl dX8_fault_1 ?_
  exact wr_i (v := fu) hx hb hr hlocks hS () (by exact show fu.toInt = fu.toInt from by omega) (hP.sub [0] rfl) (hD.sub [0] (by decide) rfl) dX8_fault_4
