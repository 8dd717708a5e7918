set_option maxHeartbeats 4000000 in
set_option maxRecDepth 100000 in
theorem g_X8_copies (l : Launch) (D : va_G) (cI cB cQ : ClassId) (sz : Nat) (h : Nat) (sl : Nat) (zs : Nat) (ln : Nat) (ir : Nat) (tk : Nat) (tb : Nat) (tr : Nat) (fz : Nat) (na : Int32) (su : Int32) (le : Int32) (fu : Int32) (ap : Int32) (pp : Int32) (tc : Int32) (nm : Int32) (a : Int32) (b : Int32) (sf : Nat → Int32) (v0 : Int) (hsi : SI sf v0) (h_a : 0 ≤ a.toInt ∧ a.toInt ≤ 28) (h_b : 1 ≤ b.toInt ∧ b.toInt ≤ 28) : mv l yX8_copies wsX8_copies ({ frames := 0, cells := 0, slots := 0, locals := 0 }) D cI cB cQ [.ref h, .int a, .int b] sz [(h, .inr (7, [.ref sl, .int na, .ref zs, .ref ln, .ref ir, .ref tk, .int su, .int le, .ref tb, .int fu, .int ap, .int pp, .ref tr, .int tc, .ref fz, .int nm])), (sl, .inl (cI, 1653, .inl sf))] (fun (u : (Nat → Int32)) => (SI u v0)) (fun u => [(h, .inr (7, [.ref sl, .int na, .ref zs, .ref ln, .ref ir, .ref tk, .int su, .int le, .ref tb, .int fu, .int ap, .int pp, .ref tr, .int tc, .ref fz, .int nm])), (sl, .inl (cI, 1653, .inl u))]) 0 0 := by
  refine wm_v (cc := cX8_copies) (maxL := 4) (ret := none) (by decide) rfl (Nat.le_of_ble_eq_true rfl) ?_
  intro p e s m below meth c A ls hx hb hr hml hown hts hlocks hin hP hK hD hN hA hl hS
  have hown : s.vm.findClass RX8 = some m.cls := hown
  have hl : lv_has ls 4 [(0, .ref h), (1, .int a), (2, .int b)] := hl
  change W p l e ({ frames := 0, cells := 0, slots := 0, locals := 0 }) s m ([.ref h, .int a, .int b] : List Value).toArray below meth c s.heap [] 0 0 (MQ below (va_Qv (fun (u : (Nat → Int32)) => (SI u v0)) (fun u t => wb D A ((fun u => [(h, .inr (7, [.ref sl, .int na, .ref zs, .ref ln, .ref ir, .ref tk, .int su, .int le, .ref tb, .int fu, .int ap, .int pp, .ref tr, .int tc, .ref fz, .int nm])), (sl, .inl (cI, 1653, .inl u))]) u) t) A) ([.ref h, .int a, .int b] : List Value).toArray s 0 0 A) (F0 m 0 ls [])
  refine lv_iconst (v := 0) hx hb dX8_copies_0 (by decide) ?_
  refine lv_istore_n (lv' := [(3, .int 0), (0, .ref h), (1, .int a), (2, .int b)]) hx hb dX8_copies_1 rfl hl (by decide) rfl (fun ls hl => ?_)
  have hL2 : ∀ (nf : Nat) (t3_c2 : Int32) (g0_c2 : Nat → Int32) (H : Heap) (locs : List Loc) (ls : Array Slot), (0 ≤ t3_c2.toInt ∧ t3_c2.toInt ≤ 57) → (SI g0_c2 v0) → (57 - t3_c2.toInt).toNat < nf → va_P D kl [(h, .inr (7, [.ref sl, .int na, .ref zs, .ref ln, .ref ir, .ref tk, .int su, .int le, .ref tb, .int fu, .int ap, .int pp, .ref tr, .int tc, .ref fz, .int nm])), (sl, .inl (cI, 1653, .inl g0_c2))] H → va_D A [(h, .inr (7, [.ref sl, .int na, .ref zs, .ref ln, .ref ir, .ref tk, .int su, .int le, .ref tb, .int fu, .int ap, .int pp, .ref tr, .int tc, .ref fz, .int nm])), (sl, .inl (cI, 1653, .inl g0_c2))] → va_S A s.heap H locs → lv_has ls 4 [(3, .int t3_c2), (0, .ref h), (1, .int a), (2, .int b)] → W p l e ({ frames := 0, cells := 0, slots := 0, locals := 0 }) s m ([.ref h, .int a, .int b] : List Value).toArray below meth c H locs 0 0 (MQ below (va_Qv (fun (u : (Nat → Int32)) => (SI u v0)) (fun u t => wb D A ((fun u => [(h, .inr (7, [.ref sl, .int na, .ref zs, .ref ln, .ref ir, .ref tk, .int su, .int le, .ref tb, .int fu, .int ap, .int pp, .ref tr, .int tc, .ref fz, .int nm])), (sl, .inl (cI, 1653, .inl u))]) u) t) A) ([.ref h, .int a, .int b] : List Value).toArray s 0 0 A) (F0 m 2 ls []) := by
    intro nf
    induction nf with
    | zero =>
      intro t3_c2 g0_c2 H locs ls i_t3_c2 ha_g0_c2 hm
      exact absurd hm (Nat.not_lt_zero _)
    | succ nf ih2 =>
      intro t3_c2 g0_c2 H locs ls i_t3_c2 ha_g0_c2 hm2 hP hD hS hl
      refine lv_iload_n hx hb dX8_copies_2 rfl (lv_at hl 0 rfl) ?_
      refine lv_bipush (v := 57) hx hb dX8_copies_3 (by decide) ?_
      refine lv_icmp_ge (tgt := 36) hx hb dX8_copies_5 (by decide) (fun c_1 => ?_) (fun c_1 => ?_)
      · have f_1 : 57 ≤ t3_c2.toInt := zi_le c_1
        exact wr_v hx hb hr hlocks hS g0_c2 (by exact ha_g0_c2) (hP.sub [0, 1] rfl) (hD.sub [0, 1] (by decide) rfl) dX8_copies_36
      · have f_1 : ¬ 57 ≤ t3_c2.toInt := zi_nle c_1
        refine lv_aload_n hx hb dX8_copies_8 rfl (lv_at hl 1 rfl) ?_
        refine va_get (D := D) (ci := 7) (v := .ref sl) (C := RX8) (T := TX8) (N := 16) hx hb hts (fun _ h => List.mem_cons_of_mem _ (List.mem_append_right _ h)) hown hK hP 0 rfl rfl 0 (by decide) (hts (.fieldLink RX8 7 "WinterWalkModel" "slot" "[I") (List.mem_of_getElem? (i := 1) rfl)) (fun _ h9 => h9) rfl dX8_copies_9 ?_
        refine lv_iload_n hx hb dX8_copies_12 rfl (lv_at hl 3 rfl) ?_
        refine lv_bipush (v := 57) hx hb dX8_copies_13 (by decide) ?_
        refine lv_imul hx hb dX8_copies_15 ?_
        refine lv_topi (fun x_2 ex_2 => ?_)
        have e_2 : x_2.toInt = b.toInt * 57 := by rw [ex_2]; exact zi_mul (rfl) (by decide) (by omega) (by omega)
        clear ex_2
        refine lv_iload_n hx hb dX8_copies_16 rfl (lv_at hl 0 rfl) ?_
        refine lv_iadd hx hb dX8_copies_17 ?_
        refine lv_topi (fun x_3 ex_3 => ?_)
        have e_3 : x_3.toInt = x_2.toInt + t3_c2.toInt := by rw [ex_3]; exact zi_add (rfl) (rfl) (by omega) (by omega)
        clear ex_3
        refine lv_aload_n hx hb dX8_copies_18 rfl (lv_at hl 1 rfl) ?_
        refine va_get (D := D) (ci := 7) (v := .ref sl) (C := RX8) (T := TX8) (N := 16) hx hb hts (fun _ h => List.mem_cons_of_mem _ (List.mem_append_right _ h)) hown hK hP 0 rfl rfl 0 (by decide) (hts (.fieldLink RX8 7 "WinterWalkModel" "slot" "[I") (List.mem_of_getElem? (i := 1) rfl)) (fun _ h9 => h9) rfl dX8_copies_19 ?_
        refine lv_iload_n hx hb dX8_copies_22 rfl (lv_at hl 2 rfl) ?_
        refine lv_bipush (v := 57) hx hb dX8_copies_23 (by decide) ?_
        refine lv_imul hx hb dX8_copies_25 ?_
        refine lv_topi (fun x_4 ex_4 => ?_)
        have e_4 : x_4.toInt = a.toInt * 57 := by rw [ex_4]; exact zi_mul (rfl) (by decide) (by omega) (by omega)
        clear ex_4
        refine lv_iload_n hx hb dX8_copies_26 rfl (lv_at hl 0 rfl) ?_
        refine lv_iadd hx hb dX8_copies_27 ?_
        refine lv_topi (fun x_5 ex_5 => ?_)
        have e_5 : x_5.toInt = x_4.toInt + t3_c2.toInt := by rw [ex_5]; exact zi_add (rfl) (rfl) (by omega) (by omega)
        clear ex_5
        refine va_iald hx hb hK hP 1 0 rfl rfl (zi_in (by omega) (by omega)) dX8_copies_28 ?_
        refine lv_topi (fun x_6 ex_6 => ?_)
        have f_6 := si_g ha_g0_c2 (i := x_5) (s := a.toInt) (k := t3_c2.toInt) (by omega) (by omega) (by omega)
        rw [← ex_6] at f_6
        clear ex_6
        refine va_iast hx hb hK hP hD hS 1 0 rfl rfl (zi_in (by omega) (by omega)) dX8_copies_29 (fun H locs hP hD hS => ?_)
        have hP : va_P D kl [(h, .inr (7, [.ref sl, .int na, .ref zs, .ref ln, .ref ir, .ref tk, .int su, .int le, .ref tb, .int fu, .int ap, .int pp, .ref tr, .int tc, .ref fz, .int nm])), (sl, .inl (cI, 1653, .inl (upd g0_c2 (x_3 : Int32).toNatClampNeg x_6)))] H := hP
        have hD : va_D A [(h, .inr (7, [.ref sl, .int na, .ref zs, .ref ln, .ref ir, .ref tk, .int su, .int le, .ref tb, .int fu, .int ap, .int pp, .ref tr, .int tc, .ref fz, .int nm])), (sl, .inl (cI, 1653, .inl (upd g0_c2 (x_3 : Int32).toNatClampNeg x_6)))] := hD
        have ha_7 : SI (upd g0_c2 (x_3 : Int32).toNatClampNeg x_6) v0 := si_up ha_g0_c2 (by omega) (fun s0 a0 b0 e0 => by omega) (fun s0 a0 b0 e0 => by omega) (fun s0 k0 a0 b0 c0 d0 e0 => by omega) (by omega)
        obtain ⟨x_8, ex_8⟩ : ∃ y : Int32, y = t3_c2 + Int32.ofInt 1 := ⟨_, rfl⟩
        refine lv_iinc (v := x_8) (lv' := [(3, .int x_8), (0, .ref h), (1, .int a), (2, .int b)]) hx hb dX8_copies_30 hl (k := 0) rfl ex_8.symm (by decide) rfl (fun ls hl => ?_)
        have ex_8 : x_8 = t3_c2 + 1 := ex_8
        have e_8 : x_8.toInt = t3_c2.toInt + 1 := by rw [ex_8]; exact zi_add (rfl) (by decide) (by omega) (by omega)
        clear ex_8
        refine lv_goto (tgt := 2) hx hb dX8_copies_33 (by decide) ?_
        exact ih2 x_8 (upd g0_c2 (x_3 : Int32).toNatClampNeg x_6) _ _ _ (show 0 ≤ x_8.toInt ∧ x_8.toInt ≤ 57 from by omega) ha_7 (by omega) (hP.sub [0, 1] rfl) (hD.sub [0, 1] (by decide) rfl) hS (lv_sub hl [0, 1, 2, 3] rfl)
  exact hL2 (((57 - (0 : Int32).toInt).toNat) + 1) 0 sf _ _ _ (show 0 ≤ 0 ∧ 0 ≤ 57 from by omega) hsi (Nat.lt_succ_self _) (hP.sub [0, 1] rfl) (hD.sub [0, 1] (by decide) rfl) hS (lv_sub hl [0, 1, 2, 3] rfl)
set_option maxHeartbeats 4000000 in
set_option maxRecDepth 100000 in
theorem g_X8_known (l : Launch) (D : va_G) (cI cB cQ : ClassId) (sz : Nat) (h : Nat) (sl : Nat) (zs : Nat) (ln : Nat) (ir : Nat) (tk : Nat) (tb : Nat) (tr : Nat) (fz : Nat) (na : Int32) (su : Int32) (le : Int32) (fu : Int32) (ap : Int32) (pp : Int32) (tc : Int32) (nm : Int32) (sf : Nat → Int32) (v0 : Int) (hsi : SI sf v0) (h_na : 0 ≤ na.toInt ∧ na.toInt ≤ 24) (h_le : 0 ≤ le.toInt ∧ le.toInt ≤ 120) (h_ap : 0 ≤ ap.toInt ∧ ap.toInt ≤ 120) (h_tc : 0 ≤ tc.toInt ∧ tc.toInt ≤ 16) : mv l yX8_known wsX8_known ({ frames := 1, cells := 0, slots := 0, locals := 23 }) D cI cB cQ [.ref h] sz [(h, .inr (7, [.ref sl, .int na, .ref zs, .ref ln, .ref ir, .ref tk, .int su, .int le, .ref tb, .int fu, .int ap, .int pp, .ref tr, .int tc, .ref fz, .int nm])), (sl, .inl (cI, 1653, .inl sf))] (fun (u : (Nat → Int32) × Int32) => (0 ≤ u.2.toInt ∧ u.2.toInt ≤ 24) ∧ (SI u.1 v0)) (fun u => [(h, .inr (7, [.ref sl, .int u.2, .ref zs, .ref ln, .ref ir, .ref tk, .int su, .int le, .ref tb, .int fu, .int ap, .int pp, .ref tr, .int tc, .ref fz, .int nm])), (sl, .inl (cI, 1653, .inl u.1))]) 0 0 := by
  refine wm_v (cc := cX8_known) (maxL := 2) (ret := none) (by decide) rfl (Nat.le_of_ble_eq_true rfl) ?_
  intro p e s m below meth c A ls hx hb hr hml hown hts hlocks hin hP hK hD hN hA hl hS
  have hown : s.vm.findClass RX8 = some m.cls := hown
  have hl : lv_has ls 2 [(0, .ref h)] := hl
  change W p l e ({ frames := 1, cells := 0, slots := 0, locals := 23 }) s m ([.ref h] : List Value).toArray below meth c s.heap [] 0 0 (MQ below (va_Qv (fun (u : (Nat → Int32) × Int32) => (0 ≤ u.2.toInt ∧ u.2.toInt ≤ 24) ∧ (SI u.1 v0)) (fun u t => wb D A ((fun u => [(h, .inr (7, [.ref sl, .int u.2, .ref zs, .ref ln, .ref ir, .ref tk, .int su, .int le, .ref tb, .int fu, .int ap, .int pp, .ref tr, .int tc, .ref fz, .int nm])), (sl, .inl (cI, 1653, .inl u.1))]) u) t) A) ([.ref h] : List Value).toArray s 0 0 A) (F0 m 0 ls [])
  refine lv_aload_n hx hb dX8_known_0 rfl (lv_at hl 0 rfl) ?_
  refine va_get (D := D) (ci := 7) (v := .int na) (C := RX8) (T := TX8) (N := 16) hx hb hts (fun _ h => List.mem_cons_of_mem _ (List.mem_append_right _ h)) hown hK hP 0 rfl rfl 1 (by decide) (hts (.fieldLink RX8 118 "WinterWalkModel" "acts" "I") (List.mem_of_getElem? (i := 1) rfl)) (fun _ h9 => h9) rfl dX8_known_1 ?_
  refine lv_bipush (v := 24) hx hb dX8_known_4 (by decide) ?_
  refine lv_icmp_ne (tgt := 45) hx hb dX8_known_6 (by decide) (fun c_1 => ?_) (fun c_1 => ?_)
  · have f_1 : ¬ na.toInt = 24 := zi_ne c_1
    refine lv_aload_n hx hb dX8_known_45 rfl (lv_at hl 0 rfl) ?_
    refine lv_iconst (v := 0) hx hb dX8_known_46 (by decide) ?_
    refine lv_iconst (v := 3) hx hb dX8_known_47 (by decide) ?_
    refine lv_aload_n hx hb dX8_known_48 rfl (lv_at hl 0 rfl) ?_
    refine va_get (D := D) (ci := 7) (v := .int na) (C := RX8) (T := TX8) (N := 16) hx hb hts (fun _ h => List.mem_cons_of_mem _ (List.mem_append_right _ h)) hown hK hP 0 rfl rfl 1 (by decide) (hts (.fieldLink RX8 118 "WinterWalkModel" "acts" "I") (List.mem_of_getElem? (i := 1) rfl)) (fun _ h9 => h9) rfl dX8_known_49 ?_
    refine lv_iadd hx hb dX8_known_52 ?_
    refine lv_topi (fun x_2 ex_2 => ?_)
    have e_2 : x_2.toInt = 3 + na.toInt := by rw [ex_2]; exact zi_add (by decide) (rfl) (by omega) (by omega)
    clear ex_2
    have k_3 := (g_X8_copies l D cI cB cQ s.heap.size h sl zs ln ir tk tb tr fz na su le fu ap pp tc nm 0 x_2 sf v0 hsi ⟨by decide, by decide⟩ (by omega))
    refine wc_v (WC := [(h, .inr (7, [.ref sl, .int na, .ref zs, .ref ln, .ref ir, .ref tk, .int su, .int le, .ref tb, .int fu, .int ap, .int pp, .ref tr, .int tc, .ref fz, .int nm])), (sl, .inl (cI, 1653, .inl sf))]) (WR := []) (va_runV (As := [.int 0, .int x_2]) (rest := []) ⟨hx, hb, hml, hown, hts⟩ k_3 (cwV 2 hts gX8_known_X8_copies rfl rfl rfl (by decide +kernel) ⟨Nat.le_of_ble_eq_true rfl, Nat.le_of_ble_eq_true rfl⟩) (wp_V hP hK hD hN [0, 1] (by decide) rfl (ci := 7) rfl rfl) rfl rfl hl.1 rfl (lv_room (Nat.le_of_ble_eq_true rfl)) dX8_known_53 ⟨Nat.le_of_ble_eq_true rfl, Nat.le_of_ble_eq_true rfl⟩) hP hD hS hA [0, 1] [] rfl rfl (by decide) (by decide) (fun u_3 H locs hw_3 hP hD hS => ?_)
    clear k_3
    have hP : va_P D kl [(h, .inr (7, [.ref sl, .int na, .ref zs, .ref ln, .ref ir, .ref tk, .int su, .int le, .ref tb, .int fu, .int ap, .int pp, .ref tr, .int tc, .ref fz, .int nm])), (sl, .inl (cI, 1653, .inl u_3))] H := hP
    have hD : va_D A [(h, .inr (7, [.ref sl, .int na, .ref zs, .ref ln, .ref ir, .ref tk, .int su, .int le, .ref tb, .int fu, .int ap, .int pp, .ref tr, .int tc, .ref fz, .int nm])), (sl, .inl (cI, 1653, .inl u_3))] := hD
    have c3_0 := hw_3
    have c3_0 : SI u_3 v0 := c3_0
    refine lv_aload_n hx hb dX8_known_56 rfl (lv_at hl 0 rfl) ?_
    refine lv_dup hx hb dX8_known_57 rfl ?_
    refine va_get (D := D) (ci := 7) (v := .int na) (C := RX8) (T := TX8) (N := 16) hx hb hts (fun _ h => List.mem_cons_of_mem _ (List.mem_append_right _ h)) hown hK hP 0 rfl rfl 1 (by decide) (hts (.fieldLink RX8 118 "WinterWalkModel" "acts" "I") (List.mem_of_getElem? (i := 1) rfl)) (fun _ h9 => h9) rfl dX8_known_58 ?_
    refine lv_iconst (v := 1) hx hb dX8_known_61 (by decide) ?_
    refine lv_iadd hx hb dX8_known_62 ?_
    refine lv_topi (fun x_4 ex_4 => ?_)
    have e_4 : x_4.toInt = na.toInt + 1 := by rw [ex_4]; exact zi_add (rfl) (by decide) (by omega) (by omega)
    clear ex_4
    refine va_put (D := D) (ci := 7) (v := .int x_4) (ty := .int) (C := RX8) (T := TX8) (N := 16) hx hb hts (fun _ h => List.mem_cons_of_mem _ (List.mem_append_right _ h)) tyX8 tyX8_ok nmX8 hown hK hP hD hS 0 rfl rfl 1 (by decide) (hts (.fieldLink RX8 118 "WinterWalkModel" "acts" "I") (List.mem_of_getElem? (i := 1) rfl)) (fun _ h9 => h9) rfl (by decide +kernel) rfl rfl (Nat.le_of_ble_eq_true rfl) dX8_known_63 (fun H locs hP hD hS => ?_)
    have hP : va_P D kl [(h, .inr (7, [.ref sl, .int x_4, .ref zs, .ref ln, .ref ir, .ref tk, .int su, .int le, .ref tb, .int fu, .int ap, .int pp, .ref tr, .int tc, .ref fz, .int nm])), (sl, .inl (cI, 1653, .inl u_3))] H := hP
    have hD : va_D A [(h, .inr (7, [.ref sl, .int x_4, .ref zs, .ref ln, .ref ir, .ref tk, .int su, .int le, .ref tb, .int fu, .int ap, .int pp, .ref tr, .int tc, .ref fz, .int nm])), (sl, .inl (cI, 1653, .inl u_3))] := hD
    exact wr_v hx hb hr hlocks hS (u_3, x_4) (by exact ⟨show 0 ≤ (x_4 : Int32).toInt ∧ (x_4 : Int32).toInt ≤ 24 from by omega, c3_0⟩) (hP.sub [0, 1] rfl) (hD.sub [0, 1] (by decide) rfl) dX8_known_66
  · have f_1 : na.toInt = 24 := zi_eq c_1
    refine lv_iconst (v := 0) hx hb dX8_known_9 (by decide) ?_
    refine lv_istore_n (lv' := [(1, .int 0), (0, .ref h)]) hx hb dX8_known_10 rfl hl (by decide) rfl (fun ls hl => ?_)
    have hL11 : ∀ (nf : Nat) (t1_c11 : Int32) (g0_c11 : Nat → Int32) (H : Heap) (locs : List Loc) (ls : Array Slot), (0 ≤ t1_c11.toInt ∧ t1_c11.toInt ≤ 23) → (SI g0_c11 v0) → (23 - t1_c11.toInt).toNat < nf → va_P D kl [(h, .inr (7, [.ref sl, .int na, .ref zs, .ref ln, .ref ir, .ref tk, .int su, .int le, .ref tb, .int fu, .int ap, .int pp, .ref tr, .int tc, .ref fz, .int nm])), (sl, .inl (cI, 1653, .inl g0_c11))] H → va_D A [(h, .inr (7, [.ref sl, .int na, .ref zs, .ref ln, .ref ir, .ref tk, .int su, .int le, .ref tb, .int fu, .int ap, .int pp, .ref tr, .int tc, .ref fz, .int nm])), (sl, .inl (cI, 1653, .inl g0_c11))] → va_S A s.heap H locs → lv_has ls 2 [(1, .int t1_c11), (0, .ref h)] → W p l e ({ frames := 1, cells := 0, slots := 0, locals := 23 }) s m ([.ref h] : List Value).toArray below meth c H locs 0 0 (MQ below (va_Qv (fun (u : (Nat → Int32) × Int32) => (0 ≤ u.2.toInt ∧ u.2.toInt ≤ 24) ∧ (SI u.1 v0)) (fun u t => wb D A ((fun u => [(h, .inr (7, [.ref sl, .int u.2, .ref zs, .ref ln, .ref ir, .ref tk, .int su, .int le, .ref tb, .int fu, .int ap, .int pp, .ref tr, .int tc, .ref fz, .int nm])), (sl, .inl (cI, 1653, .inl u.1))]) u) t) A) ([.ref h] : List Value).toArray s 0 0 A) (F0 m 11 ls []) := by
      intro nf
      induction nf with
      | zero =>
        intro t1_c11 g0_c11 H locs ls i_t1_c11 ha_g0_c11 hm
        exact absurd hm (Nat.not_lt_zero _)
      | succ nf ih11 =>
        intro t1_c11 g0_c11 H locs ls i_t1_c11 ha_g0_c11 hm11 hP hD hS hl
        refine lv_iload_n hx hb dX8_known_11 rfl (lv_at hl 0 rfl) ?_
        refine lv_bipush (v := 23) hx hb dX8_known_12 (by decide) ?_
        refine lv_icmp_ge (tgt := 35) hx hb dX8_known_14 (by decide) (fun c_5 => ?_) (fun c_5 => ?_)
        · have f_5 : 23 ≤ t1_c11.toInt := zi_le c_5
          refine lv_aload_n hx hb dX8_known_35 rfl (lv_at hl 1 rfl) ?_
          refine lv_dup hx hb dX8_known_36 rfl ?_
          refine va_get (D := D) (ci := 7) (v := .int na) (C := RX8) (T := TX8) (N := 16) hx hb hts (fun _ h => List.mem_cons_of_mem _ (List.mem_append_right _ h)) hown hK hP 0 rfl rfl 1 (by decide) (hts (.fieldLink RX8 118 "WinterWalkModel" "acts" "I") (List.mem_of_getElem? (i := 1) rfl)) (fun _ h9 => h9) rfl dX8_known_37 ?_
          refine lv_iconst (v := 1) hx hb dX8_known_40 (by decide) ?_
          refine lv_isub hx hb dX8_known_41 ?_
          refine lv_topi (fun x_6 ex_6 => ?_)
          have e_6 : x_6.toInt = na.toInt - 1 := by rw [ex_6]; exact zi_sub (rfl) (by decide) (by omega) (by omega)
          clear ex_6
          refine va_put (D := D) (ci := 7) (v := .int x_6) (ty := .int) (C := RX8) (T := TX8) (N := 16) hx hb hts (fun _ h => List.mem_cons_of_mem _ (List.mem_append_right _ h)) tyX8 tyX8_ok nmX8 hown hK hP hD hS 0 rfl rfl 1 (by decide) (hts (.fieldLink RX8 118 "WinterWalkModel" "acts" "I") (List.mem_of_getElem? (i := 1) rfl)) (fun _ h9 => h9) rfl (by decide +kernel) rfl rfl (Nat.le_of_ble_eq_true rfl) dX8_known_42 (fun H locs hP hD hS => ?_)
          have hP : va_P D kl [(h, .inr (7, [.ref sl, .int x_6, .ref zs, .ref ln, .ref ir, .ref tk, .int su, .int le, .ref tb, .int fu, .int ap, .int pp, .ref tr, .int tc, .ref fz, .int nm])), (sl, .inl (cI, 1653, .inl g0_c11))] H := hP
          have hD : va_D A [(h, .inr (7, [.ref sl, .int x_6, .ref zs, .ref ln, .ref ir, .ref tk, .int su, .int le, .ref tb, .int fu, .int ap, .int pp, .ref tr, .int tc, .ref fz, .int nm])), (sl, .inl (cI, 1653, .inl g0_c11))] := hD
          refine lv_aload_n hx hb dX8_known_45 rfl (lv_at hl 1 rfl) ?_
          refine lv_iconst (v := 0) hx hb dX8_known_46 (by decide) ?_
          refine lv_iconst (v := 3) hx hb dX8_known_47 (by decide) ?_
          refine lv_aload_n hx hb dX8_known_48 rfl (lv_at hl 1 rfl) ?_
          refine va_get (D := D) (ci := 7) (v := .int x_6) (C := RX8) (T := TX8) (N := 16) hx hb hts (fun _ h => List.mem_cons_of_mem _ (List.mem_append_right _ h)) hown hK hP 0 rfl rfl 1 (by decide) (hts (.fieldLink RX8 118 "WinterWalkModel" "acts" "I") (List.mem_of_getElem? (i := 1) rfl)) (fun _ h9 => h9) rfl dX8_known_49 ?_
          refine lv_iadd hx hb dX8_known_52 ?_
          refine lv_topi (fun x_7 ex_7 => ?_)
          have e_7 : x_7.toInt = 3 + x_6.toInt := by rw [ex_7]; exact zi_add (by decide) (rfl) (by omega) (by omega)
          clear ex_7
          have k_8 := (g_X8_copies l D cI cB cQ H.size h sl zs ln ir tk tb tr fz x_6 su le fu ap pp tc nm 0 x_7 g0_c11 v0 ha_g0_c11 ⟨by decide, by decide⟩ (by omega))
          refine wc_v (WC := [(h, .inr (7, [.ref sl, .int x_6, .ref zs, .ref ln, .ref ir, .ref tk, .int su, .int le, .ref tb, .int fu, .int ap, .int pp, .ref tr, .int tc, .ref fz, .int nm])), (sl, .inl (cI, 1653, .inl g0_c11))]) (WR := []) (va_runV (As := [.int 0, .int x_7]) (rest := []) ⟨hx, hb, hml, hown, hts⟩ k_8 (cwV 2 hts gX8_known_X8_copies rfl rfl rfl (by decide +kernel) ⟨Nat.le_of_ble_eq_true rfl, Nat.le_of_ble_eq_true rfl⟩) (wp_V hP hK hD hN [0, 1] (by decide) rfl (ci := 7) rfl rfl) rfl rfl hl.1 rfl (lv_room (Nat.le_of_ble_eq_true rfl)) dX8_known_53 ⟨Nat.le_of_ble_eq_true rfl, Nat.le_of_ble_eq_true rfl⟩) hP hD hS hA [0, 1] [] rfl rfl (by decide) (by decide) (fun u_8 H locs hw_8 hP hD hS => ?_)
          clear k_8
          have hP : va_P D kl [(h, .inr (7, [.ref sl, .int x_6, .ref zs, .ref ln, .ref ir, .ref tk, .int su, .int le, .ref tb, .int fu, .int ap, .int pp, .ref tr, .int tc, .ref fz, .int nm])), (sl, .inl (cI, 1653, .inl u_8))] H := hP
          have hD : va_D A [(h, .inr (7, [.ref sl, .int x_6, .ref zs, .ref ln, .ref ir, .ref tk, .int su, .int le, .ref tb, .int fu, .int ap, .int pp, .ref tr, .int tc, .ref fz, .int nm])), (sl, .inl (cI, 1653, .inl u_8))] := hD
          have c8_0 := hw_8
          have c8_0 : SI u_8 v0 := c8_0
          refine lv_aload_n hx hb dX8_known_56 rfl (lv_at hl 1 rfl) ?_
          refine lv_dup hx hb dX8_known_57 rfl ?_
          refine va_get (D := D) (ci := 7) (v := .int x_6) (C := RX8) (T := TX8) (N := 16) hx hb hts (fun _ h => List.mem_cons_of_mem _ (List.mem_append_right _ h)) hown hK hP 0 rfl rfl 1 (by decide) (hts (.fieldLink RX8 118 "WinterWalkModel" "acts" "I") (List.mem_of_getElem? (i := 1) rfl)) (fun _ h9 => h9) rfl dX8_known_58 ?_
          refine lv_iconst (v := 1) hx hb dX8_known_61 (by decide) ?_
          refine lv_iadd hx hb dX8_known_62 ?_
          refine lv_topi (fun x_9 ex_9 => ?_)
          have e_9 : x_9.toInt = x_6.toInt + 1 := by rw [ex_9]; exact zi_add (rfl) (by decide) (by omega) (by omega)
          clear ex_9
          refine va_put (D := D) (ci := 7) (v := .int x_9) (ty := .int) (C := RX8) (T := TX8) (N := 16) hx hb hts (fun _ h => List.mem_cons_of_mem _ (List.mem_append_right _ h)) tyX8 tyX8_ok nmX8 hown hK hP hD hS 0 rfl rfl 1 (by decide) (hts (.fieldLink RX8 118 "WinterWalkModel" "acts" "I") (List.mem_of_getElem? (i := 1) rfl)) (fun _ h9 => h9) rfl (by decide +kernel) rfl rfl (Nat.le_of_ble_eq_true rfl) dX8_known_63 (fun H locs hP hD hS => ?_)
          have hP : va_P D kl [(h, .inr (7, [.ref sl, .int x_9, .ref zs, .ref ln, .ref ir, .ref tk, .int su, .int le, .ref tb, .int fu, .int ap, .int pp, .ref tr, .int tc, .ref fz, .int nm])), (sl, .inl (cI, 1653, .inl u_8))] H := hP
          have hD : va_D A [(h, .inr (7, [.ref sl, .int x_9, .ref zs, .ref ln, .ref ir, .ref tk, .int su, .int le, .ref tb, .int fu, .int ap, .int pp, .ref tr, .int tc, .ref fz, .int nm])), (sl, .inl (cI, 1653, .inl u_8))] := hD
          exact wr_v hx hb hr hlocks hS (u_8, x_9) (by exact ⟨show 0 ≤ (x_9 : Int32).toInt ∧ (x_9 : Int32).toInt ≤ 24 from by omega, c8_0⟩) (hP.sub [0, 1] rfl) (hD.sub [0, 1] (by decide) rfl) dX8_known_66
        · have f_5 : ¬ 23 ≤ t1_c11.toInt := zi_nle c_5
          refine lv_aload_n hx hb dX8_known_17 rfl (lv_at hl 1 rfl) ?_
          refine lv_iconst (v := 3) hx hb dX8_known_18 (by decide) ?_
          refine lv_iload_n hx hb dX8_known_19 rfl (lv_at hl 0 rfl) ?_
          refine lv_iadd hx hb dX8_known_20 ?_
          refine lv_topi (fun x_10 ex_10 => ?_)
          have e_10 : x_10.toInt = 3 + t1_c11.toInt := by rw [ex_10]; exact zi_add (by decide) (rfl) (by omega) (by omega)
          clear ex_10
          refine lv_iconst (v := 1) hx hb dX8_known_21 (by decide) ?_
          refine lv_iadd hx hb dX8_known_22 ?_
          refine lv_topi (fun x_11 ex_11 => ?_)
          have e_11 : x_11.toInt = x_10.toInt + 1 := by rw [ex_11]; exact zi_add (rfl) (by decide) (by omega) (by omega)
          clear ex_11
          refine lv_iconst (v := 3) hx hb dX8_known_23 (by decide) ?_
          refine lv_iload_n hx hb dX8_known_24 rfl (lv_at hl 0 rfl) ?_
          refine lv_iadd hx hb dX8_known_25 ?_
          refine lv_topi (fun x_12 ex_12 => ?_)
          have e_12 : x_12.toInt = 3 + t1_c11.toInt := by rw [ex_12]; exact zi_add (by decide) (rfl) (by omega) (by omega)
          clear ex_12
          have k_13 := (g_X8_copies l D cI cB cQ H.size h sl zs ln ir tk tb tr fz na su le fu ap pp tc nm x_11 x_12 g0_c11 v0 ha_g0_c11 (by omega) (by omega))
          refine wc_v (WC := [(h, .inr (7, [.ref sl, .int na, .ref zs, .ref ln, .ref ir, .ref tk, .int su, .int le, .ref tb, .int fu, .int ap, .int pp, .ref tr, .int tc, .ref fz, .int nm])), (sl, .inl (cI, 1653, .inl g0_c11))]) (WR := []) (va_runV (As := [.int x_11, .int x_12]) (rest := []) ⟨hx, hb, hml, hown, hts⟩ k_13 (cwV 2 hts gX8_known_X8_copies rfl rfl rfl (by decide +kernel) ⟨Nat.le_of_ble_eq_true rfl, Nat.le_of_ble_eq_true rfl⟩) (wp_V hP hK hD hN [0, 1] (by decide) rfl (ci := 7) rfl rfl) rfl rfl hl.1 rfl (lv_room (Nat.le_of_ble_eq_true rfl)) dX8_known_26 ⟨Nat.le_of_ble_eq_true rfl, Nat.le_of_ble_eq_true rfl⟩) hP hD hS hA [0, 1] [] rfl rfl (by decide) (by decide) (fun u_13 H locs hw_13 hP hD hS => ?_)
          clear k_13
          have hP : va_P D kl [(h, .inr (7, [.ref sl, .int na, .ref zs, .ref ln, .ref ir, .ref tk, .int su, .int le, .ref tb, .int fu, .int ap, .int pp, .ref tr, .int tc, .ref fz, .int nm])), (sl, .inl (cI, 1653, .inl u_13))] H := hP
          have hD : va_D A [(h, .inr (7, [.ref sl, .int na, .ref zs, .ref ln, .ref ir, .ref tk, .int su, .int le, .ref tb, .int fu, .int ap, .int pp, .ref tr, .int tc, .ref fz, .int nm])), (sl, .inl (cI, 1653, .inl u_13))] := hD
          have c13_0 := hw_13
          have c13_0 : SI u_13 v0 := c13_0
          obtain ⟨x_14, ex_14⟩ : ∃ y : Int32, y = t1_c11 + Int32.ofInt 1 := ⟨_, rfl⟩
          refine lv_iinc (v := x_14) (lv' := [(1, .int x_14), (0, .ref h)]) hx hb dX8_known_29 hl (k := 0) rfl ex_14.symm (by decide) rfl (fun ls hl => ?_)
          have ex_14 : x_14 = t1_c11 + 1 := ex_14
          have e_14 : x_14.toInt = t1_c11.toInt + 1 := by rw [ex_14]; exact zi_add (rfl) (by decide) (by omega) (by omega)
          clear ex_14
          refine lv_goto (tgt := 11) hx hb dX8_known_32 (by decide) ?_
          exact ih11 x_14 u_13 _ _ _ (show 0 ≤ x_14.toInt ∧ x_14.toInt ≤ 23 from by omega) c13_0 (by omega) (hP.sub [0, 1] rfl) (hD.sub [0, 1] (by decide) rfl) hS (lv_sub hl [0, 1] rfl)
    exact hL11 (((23 - (0 : Int32).toInt).toNat) + 1) 0 sf _ _ _ (show 0 ≤ 0 ∧ 0 ≤ 23 from by omega) hsi (Nat.lt_succ_self _) (hP.sub [0, 1] rfl) (hD.sub [0, 1] (by decide) rfl) hS (lv_sub hl [0, 1] rfl)
set_option maxHeartbeats 4000000 in
set_option maxRecDepth 100000 in
theorem g_X8_isVillageThere (l : Launch) (D : va_G) (cI cB cQ : ClassId) (sz : Nat) (h : Nat) (sl : Nat) (zs : Nat) (ln : Nat) (ir : Nat) (tk : Nat) (tb : Nat) (tr : Nat) (fz : Nat) (na : Int32) (su : Int32) (le : Int32) (fu : Int32) (ap : Int32) (pp : Int32) (tc : Int32) (nm : Int32) (v : Int32) (sf : Nat → Int32) (v0 : Int) (hsi : SI sf v0) : mi l yX8_isVillageThere wsX8_isVillageThere ({ frames := 1, cells := 0, slots := 0, locals := 25 }) D cI cB cQ [.ref h, .int v] sz [(h, .inr (7, [.ref sl, .int na, .ref zs, .ref ln, .ref ir, .ref tk, .int su, .int le, .ref tb, .int fu, .int ap, .int pp, .ref tr, .int tc, .ref fz, .int nm])), (sl, .inl (cI, 1653, .inl sf))] (fun (r : Int32) (_u : Unit) => ((r = 1 ∧ 0 ≤ v.toInt ∧ v.toInt ≤ 7 ∧ v.toInt < v0) ∨ (r = 0))) (fun _ => [(h, .inr (7, [.ref sl, .int na, .ref zs, .ref ln, .ref ir, .ref tk, .int su, .int le, .ref tb, .int fu, .int ap, .int pp, .ref tr, .int tc, .ref fz, .int nm])), (sl, .inl (cI, 1653, .inl sf))]) 0 0 := by
  refine wm_i (cc := cX8_isVillageThere) (maxL := 2) (ret := (some .boolean)) (by decide) rfl (Nat.le_of_ble_eq_true rfl) ?_
  intro p e s m below meth c A ls hx hb hr hml hown hts hlocks hin hP hK hD hN hA hl hS
  have hown : s.vm.findClass RX8 = some m.cls := hown
  have hl : lv_has ls 2 [(0, .ref h), (1, .int v)] := hl
  change W p l e ({ frames := 1, cells := 0, slots := 0, locals := 25 }) s m ([.ref h, .int v] : List Value).toArray below meth c s.heap [] 0 0 (MQ below (va_Qi (fun (r : Int32) (_u : Unit) => ((r = 1 ∧ 0 ≤ v.toInt ∧ v.toInt ≤ 7 ∧ v.toInt < v0) ∨ (r = 0))) (fun u t => wb D A ((fun _ => [(h, .inr (7, [.ref sl, .int na, .ref zs, .ref ln, .ref ir, .ref tk, .int su, .int le, .ref tb, .int fu, .int ap, .int pp, .ref tr, .int tc, .ref fz, .int nm])), (sl, .inl (cI, 1653, .inl sf))]) u) t) A) ([.ref h, .int v] : List Value).toArray s 0 0 A) (F0 m 0 ls [])
  refine lv_iload_n hx hb dX8_isVillageThere_0 rfl (lv_at hl 1 rfl) ?_
  refine lv_i2l (v := (v.toInt64)) hx hb dX8_isVillageThere_1 rfl ?_
  refine lv_lconst (v := 0) hx hb dX8_isVillageThere_2 (by decide) ?_
  refine lv_aload_n hx hb dX8_isVillageThere_3 rfl (lv_at hl 0 rfl) ?_
  refine va_get (D := D) (ci := 7) (v := .ref sl) (C := RX8) (T := TX8) (N := 16) hx hb hts (fun _ h => List.mem_cons_of_mem _ (List.mem_append_right _ h)) hown hK hP 0 rfl rfl 0 (by decide) (hts (.fieldLink RX8 7 "WinterWalkModel" "slot" "[I") (List.mem_of_getElem? (i := 1) rfl)) (fun _ h9 => h9) rfl dX8_isVillageThere_4 ?_
  refine lv_iconst (v := 1) hx hb dX8_isVillageThere_7 (by decide) ?_
  refine va_iald hx hb hK hP 1 0 rfl rfl (zi_in (by decide) (by decide)) dX8_isVillageThere_8 ?_
  refine lv_topi (fun x_1 ex_1 => ?_)
  have f_1 : 0 ≤ x_1.toInt ∧ x_1.toInt ≤ 8 := by rw [ex_1]; exact si_v hsi (s := 0) (by decide) (by omega)
  have g_1 : x_1.toInt = v0 := by rw [ex_1]; exact hsi.2
  refine lv_iconst (v := 1) hx hb dX8_isVillageThere_9 (by decide) ?_
  refine lv_isub hx hb dX8_isVillageThere_10 ?_
  refine lv_topi (fun x_2 ex_2 => ?_)
  have e_2 : x_2.toInt = x_1.toInt - 1 := by rw [ex_2]; exact zi_sub (rfl) (by decide) (by omega) (by omega)
  clear ex_2
  refine lv_i2l (v := (x_2.toInt64)) hx hb dX8_isVillageThere_11 rfl ?_
  have k_3 := (g_X8_in l D cI cB cQ s.heap.size (v.toInt64) 0 (x_2.toInt64))
  refine wc_i (WC := []) (WR := [(h, .inr (7, [.ref sl, .int na, .ref zs, .ref ln, .ref ir, .ref tk, .int su, .int le, .ref tb, .int fu, .int ap, .int pp, .ref tr, .int tc, .ref fz, .int nm])), (sl, .inl (cI, 1653, .inl sf))]) (va_runS (As := [.long (v.toInt64), .long 0, .long (x_2.toInt64)]) (rest := []) ⟨hx, hb, hml, hown, hts⟩ k_3 (va_cwS 3 hts gX8_isVillageThere_X8_in rfl rfl rfl (by decide +kernel) ⟨Nat.le_of_ble_eq_true rfl, Nat.le_of_ble_eq_true rfl⟩) (wp_S hP hK hD hN [] (by decide) rfl) rfl rfl hl.1 rfl (lv_room (Nat.le_of_ble_eq_true rfl)) dX8_isVillageThere_12 ⟨Nat.le_of_ble_eq_true rfl, Nat.le_of_ble_eq_true rfl⟩) hP hD hS hA [] [0, 1] rfl rfl (by decide) (by decide) (fun r_3 u_3 H locs hw_3 hP hD hS => ?_)
  clear k_3
  have hP : va_P D kl [(h, .inr (7, [.ref sl, .int na, .ref zs, .ref ln, .ref ir, .ref tk, .int su, .int le, .ref tb, .int fu, .int ap, .int pp, .ref tr, .int tc, .ref fz, .int nm])), (sl, .inl (cI, 1653, .inl sf))] H := hP
  have hD : va_D A [(h, .inr (7, [.ref sl, .int na, .ref zs, .ref ln, .ref ir, .ref tk, .int su, .int le, .ref tb, .int fu, .int ap, .int pp, .ref tr, .int tc, .ref fz, .int nm])), (sl, .inl (cI, 1653, .inl sf))] := hD
  have c3_0 := hw_3
  rcases c3_0 with ⟨e_3, f_3⟩ | ⟨e_3, f_3⟩
  · subst e_3
    have f_3 : (0 : Int) ≤ v.toInt ∧ v.toInt ≤ x_2.toInt := by
      have h8 := f_3
      try simp only [zl_of] at h8
      exact h8
    exact wr_z (v := 1) hx hb hr hlocks hS () (by exact Or.inl ⟨rfl, show 0 ≤ v.toInt ∧ v.toInt ≤ 7 ∧ v.toInt < v0 from by omega⟩) (hP.sub [0, 1] rfl) (hD.sub [0, 1] (by decide) rfl) dX8_isVillageThere_15 rfl
  · subst e_3
    have f_3 : ¬ ((0 : Int) ≤ v.toInt ∧ v.toInt ≤ x_2.toInt) := by
      have h8 := f_3
      try simp only [zl_of] at h8
      exact h8
    exact wr_z (v := 0) hx hb hr hlocks hS () (by exact Or.inr (rfl)) (hP.sub [0, 1] rfl) (hD.sub [0, 1] (by decide) rfl) dX8_isVillageThere_15 rfl
set_option maxHeartbeats 4000000 in
set_option maxRecDepth 100000 in
theorem g_X8_isWalkerThere (l : Launch) (D : va_G) (cI cB cQ : ClassId) (sz : Nat) (h : Nat) (sl : Nat) (zs : Nat) (ln : Nat) (ir : Nat) (tk : Nat) (tb : Nat) (tr : Nat) (fz : Nat) (na : Int32) (su : Int32) (le : Int32) (fu : Int32) (ap : Int32) (pp : Int32) (tc : Int32) (nm : Int32) (v : Int32) (sf : Nat → Int32) (v0 : Int) (hsi : SI sf v0) : mi l yX8_isWalkerThere wsX8_isWalkerThere ({ frames := 1, cells := 0, slots := 0, locals := 25 }) D cI cB cQ [.ref h, .int v] sz [(h, .inr (7, [.ref sl, .int na, .ref zs, .ref ln, .ref ir, .ref tk, .int su, .int le, .ref tb, .int fu, .int ap, .int pp, .ref tr, .int tc, .ref fz, .int nm])), (sl, .inl (cI, 1653, .inl sf))] (fun (r : Int32) (_u : Unit) => ((r = 1 ∧ 0 ≤ v.toInt ∧ v.toInt ≤ 2) ∨ (r = 0))) (fun _ => [(h, .inr (7, [.ref sl, .int na, .ref zs, .ref ln, .ref ir, .ref tk, .int su, .int le, .ref tb, .int fu, .int ap, .int pp, .ref tr, .int tc, .ref fz, .int nm])), (sl, .inl (cI, 1653, .inl sf))]) 0 0 := by
  refine wm_i (cc := cX8_isWalkerThere) (maxL := 2) (ret := (some .boolean)) (by decide) rfl (Nat.le_of_ble_eq_true rfl) ?_
  intro p e s m below meth c A ls hx hb hr hml hown hts hlocks hin hP hK hD hN hA hl hS
  have hown : s.vm.findClass RX8 = some m.cls := hown
  have hl : lv_has ls 2 [(0, .ref h), (1, .int v)] := hl
  change W p l e ({ frames := 1, cells := 0, slots := 0, locals := 25 }) s m ([.ref h, .int v] : List Value).toArray below meth c s.heap [] 0 0 (MQ below (va_Qi (fun (r : Int32) (_u : Unit) => ((r = 1 ∧ 0 ≤ v.toInt ∧ v.toInt ≤ 2) ∨ (r = 0))) (fun u t => wb D A ((fun _ => [(h, .inr (7, [.ref sl, .int na, .ref zs, .ref ln, .ref ir, .ref tk, .int su, .int le, .ref tb, .int fu, .int ap, .int pp, .ref tr, .int tc, .ref fz, .int nm])), (sl, .inl (cI, 1653, .inl sf))]) u) t) A) ([.ref h, .int v] : List Value).toArray s 0 0 A) (F0 m 0 ls [])
  refine lv_iload_n hx hb dX8_isWalkerThere_0 rfl (lv_at hl 1 rfl) ?_
  refine lv_i2l (v := (v.toInt64)) hx hb dX8_isWalkerThere_1 rfl ?_
  refine lv_lconst (v := 0) hx hb dX8_isWalkerThere_2 (by decide) ?_
  refine lv_aload_n hx hb dX8_isWalkerThere_3 rfl (lv_at hl 0 rfl) ?_
  refine va_get (D := D) (ci := 7) (v := .ref sl) (C := RX8) (T := TX8) (N := 16) hx hb hts (fun _ h => List.mem_cons_of_mem _ (List.mem_append_right _ h)) hown hK hP 0 rfl rfl 0 (by decide) (hts (.fieldLink RX8 7 "WinterWalkModel" "slot" "[I") (List.mem_of_getElem? (i := 1) rfl)) (fun _ h9 => h9) rfl dX8_isWalkerThere_4 ?_
  refine lv_iconst (v := 2) hx hb dX8_isWalkerThere_7 (by decide) ?_
  refine va_iald hx hb hK hP 1 0 rfl rfl (zi_in (by decide) (by decide)) dX8_isWalkerThere_8 ?_
  refine lv_topi (fun x_1 ex_1 => ?_)
  have f_1 : 0 ≤ x_1.toInt ∧ x_1.toInt ≤ 3 := by rw [ex_1]; exact si_w hsi (s := 0) (by decide) (by omega)
  refine lv_iconst (v := 1) hx hb dX8_isWalkerThere_9 (by decide) ?_
  refine lv_isub hx hb dX8_isWalkerThere_10 ?_
  refine lv_topi (fun x_2 ex_2 => ?_)
  have e_2 : x_2.toInt = x_1.toInt - 1 := by rw [ex_2]; exact zi_sub (rfl) (by decide) (by omega) (by omega)
  clear ex_2
  refine lv_i2l (v := (x_2.toInt64)) hx hb dX8_isWalkerThere_11 rfl ?_
  have k_3 := (g_X8_in l D cI cB cQ s.heap.size (v.toInt64) 0 (x_2.toInt64))
  refine wc_i (WC := []) (WR := [(h, .inr (7, [.ref sl, .int na, .ref zs, .ref ln, .ref ir, .ref tk, .int su, .int le, .ref tb, .int fu, .int ap, .int pp, .ref tr, .int tc, .ref fz, .int nm])), (sl, .inl (cI, 1653, .inl sf))]) (va_runS (As := [.long (v.toInt64), .long 0, .long (x_2.toInt64)]) (rest := []) ⟨hx, hb, hml, hown, hts⟩ k_3 (va_cwS 3 hts gX8_isWalkerThere_X8_in rfl rfl rfl (by decide +kernel) ⟨Nat.le_of_ble_eq_true rfl, Nat.le_of_ble_eq_true rfl⟩) (wp_S hP hK hD hN [] (by decide) rfl) rfl rfl hl.1 rfl (lv_room (Nat.le_of_ble_eq_true rfl)) dX8_isWalkerThere_12 ⟨Nat.le_of_ble_eq_true rfl, Nat.le_of_ble_eq_true rfl⟩) hP hD hS hA [] [0, 1] rfl rfl (by decide) (by decide) (fun r_3 u_3 H locs hw_3 hP hD hS => ?_)
  clear k_3
  have hP : va_P D kl [(h, .inr (7, [.ref sl, .int na, .ref zs, .ref ln, .ref ir, .ref tk, .int su, .int le, .ref tb, .int fu, .int ap, .int pp, .ref tr, .int tc, .ref fz, .int nm])), (sl, .inl (cI, 1653, .inl sf))] H := hP
  have hD : va_D A [(h, .inr (7, [.ref sl, .int na, .ref zs, .ref ln, .ref ir, .ref tk, .int su, .int le, .ref tb, .int fu, .int ap, .int pp, .ref tr, .int tc, .ref fz, .int nm])), (sl, .inl (cI, 1653, .inl sf))] := hD
  have c3_0 := hw_3
  rcases c3_0 with ⟨e_3, f_3⟩ | ⟨e_3, f_3⟩
  · subst e_3
    have f_3 : (0 : Int) ≤ v.toInt ∧ v.toInt ≤ x_2.toInt := by
      have h8 := f_3
      try simp only [zl_of] at h8
      exact h8
    exact wr_z (v := 1) hx hb hr hlocks hS () (by exact Or.inl ⟨rfl, show 0 ≤ v.toInt ∧ v.toInt ≤ 2 from by omega⟩) (hP.sub [0, 1] rfl) (hD.sub [0, 1] (by decide) rfl) dX8_isWalkerThere_15 rfl
  · subst e_3
    have f_3 : ¬ ((0 : Int) ≤ v.toInt ∧ v.toInt ≤ x_2.toInt) := by
      have h8 := f_3
      try simp only [zl_of] at h8
      exact h8
    exact wr_z (v := 0) hx hb hr hlocks hS () (by exact Or.inr (rfl)) (hP.sub [0, 1] rfl) (hD.sub [0, 1] (by decide) rfl) dX8_isWalkerThere_15 rfl
set_option maxHeartbeats 4000000 in
set_option maxRecDepth 100000 in
theorem g_X8_open (l : Launch) (D : va_G) (cI cB cQ : ClassId) (sz : Nat) (h : Nat) (sl : Nat) (zs : Nat) (ln : Nat) (ir : Nat) (tk : Nat) (tb : Nat) (tr : Nat) (fz : Nat) (na : Int32) (su : Int32) (le : Int32) (fu : Int32) (ap : Int32) (pp : Int32) (tc : Int32) (nm : Int32) (k : Int32) (v : Int32) (sf : Nat → Int32) (v0 : Int) (hsi : SI sf v0) (h_k : 0 ≤ k.toInt ∧ k.toInt ≤ 28) (h_v : 0 ≤ v.toInt ∧ v.toInt ≤ 7) : mi l yX8_open wsX8_open ({ frames := 0, cells := 0, slots := 0, locals := 0 }) D cI cB cQ [.ref h, .int k, .int v] sz [(h, .inr (7, [.ref sl, .int na, .ref zs, .ref ln, .ref ir, .ref tk, .int su, .int le, .ref tb, .int fu, .int ap, .int pp, .ref tr, .int tc, .ref fz, .int nm])), (sl, .inl (cI, 1653, .inl sf))] (fun (r : Int32) (_u : Unit) => True) (fun _ => [(h, .inr (7, [.ref sl, .int na, .ref zs, .ref ln, .ref ir, .ref tk, .int su, .int le, .ref tb, .int fu, .int ap, .int pp, .ref tr, .int tc, .ref fz, .int nm])), (sl, .inl (cI, 1653, .inl sf))]) 0 0 := by
  refine wm_i (cc := cX8_open) (maxL := 3) (ret := (some .int)) (by decide) rfl (Nat.le_of_ble_eq_true rfl) ?_
  intro p e s m below meth c A ls hx hb hr hml hown hts hlocks hin hP hK hD hN hA hl hS
  have hown : s.vm.findClass RX8 = some m.cls := hown
  have hl : lv_has ls 3 [(0, .ref h), (1, .int k), (2, .int v)] := hl
  change W p l e ({ frames := 0, cells := 0, slots := 0, locals := 0 }) s m ([.ref h, .int k, .int v] : List Value).toArray below meth c s.heap [] 0 0 (MQ below (va_Qi (fun (r : Int32) (_u : Unit) => True) (fun u t => wb D A ((fun _ => [(h, .inr (7, [.ref sl, .int na, .ref zs, .ref ln, .ref ir, .ref tk, .int su, .int le, .ref tb, .int fu, .int ap, .int pp, .ref tr, .int tc, .ref fz, .int nm])), (sl, .inl (cI, 1653, .inl sf))]) u) t) A) ([.ref h, .int k, .int v] : List Value).toArray s 0 0 A) (F0 m 0 ls [])
  refine lv_aload_n hx hb dX8_open_0 rfl (lv_at hl 0 rfl) ?_
  refine va_get (D := D) (ci := 7) (v := .ref sl) (C := RX8) (T := TX8) (N := 16) hx hb hts (fun _ h => List.mem_cons_of_mem _ (List.mem_append_right _ h)) hown hK hP 0 rfl rfl 0 (by decide) (hts (.fieldLink RX8 7 "WinterWalkModel" "slot" "[I") (List.mem_of_getElem? (i := 1) rfl)) (fun _ h9 => h9) rfl dX8_open_1 ?_
  refine lv_iload_n hx hb dX8_open_4 rfl (lv_at hl 1 rfl) ?_
  refine lv_bipush (v := 57) hx hb dX8_open_5 (by decide) ?_
  refine lv_imul hx hb dX8_open_7 ?_
  refine lv_topi (fun x_1 ex_1 => ?_)
  have e_1 : x_1.toInt = k.toInt * 57 := by rw [ex_1]; exact zi_mul (rfl) (by decide) (by omega) (by omega)
  clear ex_1
  refine lv_bipush (v := 12) hx hb dX8_open_8 (by decide) ?_
  refine lv_iadd hx hb dX8_open_10 ?_
  refine lv_topi (fun x_2 ex_2 => ?_)
  have e_2 : x_2.toInt = x_1.toInt + 12 := by rw [ex_2]; exact zi_add (rfl) (by decide) (by omega) (by omega)
  clear ex_2
  refine lv_iload_n hx hb dX8_open_11 rfl (lv_at hl 2 rfl) ?_
  refine lv_iadd hx hb dX8_open_12 ?_
  refine lv_topi (fun x_3 ex_3 => ?_)
  have e_3 : x_3.toInt = x_2.toInt + v.toInt := by rw [ex_3]; exact zi_add (rfl) (rfl) (by omega) (by omega)
  clear ex_3
  refine va_iald hx hb hK hP 1 0 rfl rfl (zi_in (by omega) (by omega)) dX8_open_13 ?_
  refine lv_topi (fun x_4 ex_4 => ?_)
  clear ex_4
  refine lv_aload_n hx hb dX8_open_14 rfl (lv_at hl 0 rfl) ?_
  refine va_get (D := D) (ci := 7) (v := .ref sl) (C := RX8) (T := TX8) (N := 16) hx hb hts (fun _ h => List.mem_cons_of_mem _ (List.mem_append_right _ h)) hown hK hP 0 rfl rfl 0 (by decide) (hts (.fieldLink RX8 7 "WinterWalkModel" "slot" "[I") (List.mem_of_getElem? (i := 1) rfl)) (fun _ h9 => h9) rfl dX8_open_15 ?_
  refine lv_iload_n hx hb dX8_open_18 rfl (lv_at hl 1 rfl) ?_
  refine lv_bipush (v := 57) hx hb dX8_open_19 (by decide) ?_
  refine lv_imul hx hb dX8_open_21 ?_
  refine lv_topi (fun x_5 ex_5 => ?_)
  have e_5 : x_5.toInt = k.toInt * 57 := by rw [ex_5]; exact zi_mul (rfl) (by decide) (by omega) (by omega)
  clear ex_5
  refine lv_bipush (v := 31) hx hb dX8_open_22 (by decide) ?_
  refine lv_iadd hx hb dX8_open_24 ?_
  refine lv_topi (fun x_6 ex_6 => ?_)
  have e_6 : x_6.toInt = x_5.toInt + 31 := by rw [ex_6]; exact zi_add (rfl) (by decide) (by omega) (by omega)
  clear ex_6
  refine va_iald hx hb hK hP 1 0 rfl rfl (zi_in (by omega) (by omega)) dX8_open_25 ?_
  refine lv_topi (fun x_7 ex_7 => ?_)
  clear ex_7
  refine lv_iconst (v := (-1)) hx hb dX8_open_26 (by decide) ?_
  refine lv_ixor hx hb dX8_open_27 ?_
  refine lv_topi (fun x_8 ex_8 => ?_)
  clear ex_8
  refine lv_iand hx hb dX8_open_28 ?_
  refine lv_topi (fun x_9 ex_9 => ?_)
  clear ex_9
  exact wr_i (v := x_9) hx hb hr hlocks hS () (by trivial) (hP.sub [0, 1] rfl) (hD.sub [0, 1] (by decide) rfl) dX8_open_29
set_option maxHeartbeats 4000000 in
set_option maxRecDepth 100000 in
theorem g_X8_dearest (l : Launch) (D : va_G) (cI cB cQ : ClassId) (sz : Nat) (h : Nat) (sl : Nat) (zs : Nat) (ln : Nat) (ir : Nat) (tk : Nat) (tb : Nat) (tr : Nat) (fz : Nat) (na : Int32) (su : Int32) (le : Int32) (fu : Int32) (ap : Int32) (pp : Int32) (tc : Int32) (nm : Int32) (k : Int32) (b : Int32) (v : Int32) (sf : Nat → Int32) (v0 : Int) (hsi : SI sf v0) (h_k : 0 ≤ k.toInt ∧ k.toInt ≤ 28) (h_v : 0 ≤ v.toInt ∧ v.toInt ≤ 7) : mi l yX8_dearest wsX8_dearest ({ frames := 1, cells := 0, slots := 0, locals := 21 }) D cI cB cQ [.ref h, .int k, .int b, .int v] sz [(h, .inr (7, [.ref sl, .int na, .ref zs, .ref ln, .ref ir, .ref tk, .int su, .int le, .ref tb, .int fu, .int ap, .int pp, .ref tr, .int tc, .ref fz, .int nm])), (sl, .inl (cI, 1653, .inl sf))] (fun (r : Int32) (_u : Unit) => (0 ≤ r.toInt ∧ r.toInt ≤ 7)) (fun _ => [(h, .inr (7, [.ref sl, .int na, .ref zs, .ref ln, .ref ir, .ref tk, .int su, .int le, .ref tb, .int fu, .int ap, .int pp, .ref tr, .int tc, .ref fz, .int nm])), (sl, .inl (cI, 1653, .inl sf))]) 0 0 := by
  refine wm_i (cc := cX8_dearest) (maxL := 6) (ret := (some .int)) (by decide) rfl (Nat.le_of_ble_eq_true rfl) ?_
  intro p e s m below meth c A ls hx hb hr hml hown hts hlocks hin hP hK hD hN hA hl hS
  have hown : s.vm.findClass RX8 = some m.cls := hown
  have hl : lv_has ls 6 [(0, .ref h), (1, .int k), (2, .int b), (3, .int v)] := hl
  change W p l e ({ frames := 1, cells := 0, slots := 0, locals := 21 }) s m ([.ref h, .int k, .int b, .int v] : List Value).toArray below meth c s.heap [] 0 0 (MQ below (va_Qi (fun (r : Int32) (_u : Unit) => (0 ≤ r.toInt ∧ r.toInt ≤ 7)) (fun u t => wb D A ((fun _ => [(h, .inr (7, [.ref sl, .int na, .ref zs, .ref ln, .ref ir, .ref tk, .int su, .int le, .ref tb, .int fu, .int ap, .int pp, .ref tr, .int tc, .ref fz, .int nm])), (sl, .inl (cI, 1653, .inl sf))]) u) t) A) ([.ref h, .int k, .int b, .int v] : List Value).toArray s 0 0 A) (F0 m 0 ls [])
  refine lv_iconst (v := (-1)) hx hb dX8_dearest_0 (by decide) ?_
  refine lv_istore (lv' := [(4, .int (-1)), (0, .ref h), (1, .int k), (2, .int b), (3, .int v)]) hx hb dX8_dearest_1 hl (by decide) rfl (fun ls hl => ?_)
  refine lv_iconst (v := 0) hx hb dX8_dearest_3 (by decide) ?_
  refine lv_istore (lv' := [(5, .int 0), (4, .int (-1)), (0, .ref h), (1, .int k), (2, .int b), (3, .int v)]) hx hb dX8_dearest_4 hl (by decide) rfl (fun ls hl => ?_)
  have hL6 : ∀ (nf : Nat) (t5_c6 : Int32) (t4_c6 : Int32) (H : Heap) (locs : List Loc) (ls : Array Slot), (0 ≤ t5_c6.toInt ∧ t5_c6.toInt ≤ 8) → ((-1) ≤ t4_c6.toInt ∧ t4_c6.toInt ≤ 7) → (8 - t5_c6.toInt).toNat < nf → va_P D kl [(h, .inr (7, [.ref sl, .int na, .ref zs, .ref ln, .ref ir, .ref tk, .int su, .int le, .ref tb, .int fu, .int ap, .int pp, .ref tr, .int tc, .ref fz, .int nm])), (sl, .inl (cI, 1653, .inl sf))] H → va_D A [(h, .inr (7, [.ref sl, .int na, .ref zs, .ref ln, .ref ir, .ref tk, .int su, .int le, .ref tb, .int fu, .int ap, .int pp, .ref tr, .int tc, .ref fz, .int nm])), (sl, .inl (cI, 1653, .inl sf))] → va_S A s.heap H locs → lv_has ls 6 [(5, .int t5_c6), (4, .int t4_c6), (0, .ref h), (1, .int k), (2, .int b), (3, .int v)] → W p l e ({ frames := 1, cells := 0, slots := 0, locals := 21 }) s m ([.ref h, .int k, .int b, .int v] : List Value).toArray below meth c H locs 0 0 (MQ below (va_Qi (fun (r : Int32) (_u : Unit) => (0 ≤ r.toInt ∧ r.toInt ≤ 7)) (fun u t => wb D A ((fun _ => [(h, .inr (7, [.ref sl, .int na, .ref zs, .ref ln, .ref ir, .ref tk, .int su, .int le, .ref tb, .int fu, .int ap, .int pp, .ref tr, .int tc, .ref fz, .int nm])), (sl, .inl (cI, 1653, .inl sf))]) u) t) A) ([.ref h, .int k, .int b, .int v] : List Value).toArray s 0 0 A) (F0 m 6 ls []) := by
    intro nf
    induction nf with
    | zero =>
      intro t5_c6 t4_c6 H locs ls i_t5_c6 i_t4_c6 hm
      exact absurd hm (Nat.not_lt_zero _)
    | succ nf ih6 =>
      intro t5_c6 t4_c6 H locs ls i_t5_c6 i_t4_c6 hm6 hP hD hS hl
      refine lv_iload hx hb dX8_dearest_6 (lv_at hl 0 rfl) ?_
      refine lv_bipush (v := 8) hx hb dX8_dearest_8 (by decide) ?_
      refine lv_icmp_ge (tgt := 75) hx hb dX8_dearest_10 (by decide) (fun c_1 => ?_) (fun c_1 => ?_)
      · have f_1 : 8 ≤ t5_c6.toInt := zi_le c_1
        refine lv_iload hx hb dX8_dearest_75 (lv_at hl 1 rfl) ?_
        refine lv_if_ge (tgt := 84) hx hb dX8_dearest_77 (by decide) (fun c_2 => ?_) (fun c_2 => ?_)
        · have f_2 : 0 ≤ t4_c6.toInt := zi_le c_2
          refine lv_iload hx hb dX8_dearest_84 (lv_at hl 1 rfl) ?_
          exact wr_i (v := t4_c6) hx hb hr hlocks hS () (by exact (by omega)) (hP.sub [0, 1] rfl) (hD.sub [0, 1] (by decide) rfl) dX8_dearest_86
        · have f_2 : ¬ 0 ≤ t4_c6.toInt := zi_nle c_2
          refine lv_iload_n hx hb dX8_dearest_80 rfl (lv_at hl 5 rfl) ?_
          refine lv_goto (tgt := 86) hx hb dX8_dearest_81 (by decide) ?_
          exact wr_i (v := v) hx hb hr hlocks hS () (by exact (by omega)) (hP.sub [0, 1] rfl) (hD.sub [0, 1] (by decide) rfl) dX8_dearest_86
      · have f_1 : ¬ 8 ≤ t5_c6.toInt := zi_nle c_1
        refine lv_iload_n hx hb dX8_dearest_13 rfl (lv_at hl 4 rfl) ?_
        refine lv_iload hx hb dX8_dearest_14 (lv_at hl 0 rfl) ?_
        have k_3 := (g_X8_has l D cI cB cQ H.size b t5_c6)
        refine wc_i (WC := []) (WR := [(h, .inr (7, [.ref sl, .int na, .ref zs, .ref ln, .ref ir, .ref tk, .int su, .int le, .ref tb, .int fu, .int ap, .int pp, .ref tr, .int tc, .ref fz, .int nm])), (sl, .inl (cI, 1653, .inl sf))]) (va_runS (As := [.int b, .int t5_c6]) (rest := []) ⟨hx, hb, hml, hown, hts⟩ k_3 (va_cwS 2 hts gX8_dearest_X8_has rfl rfl rfl (by decide +kernel) ⟨Nat.le_of_ble_eq_true rfl, Nat.le_of_ble_eq_true rfl⟩) (wp_S hP hK hD hN [] (by decide) rfl) rfl rfl hl.1 rfl (lv_room (Nat.le_of_ble_eq_true rfl)) dX8_dearest_16 ⟨Nat.le_of_ble_eq_true rfl, Nat.le_of_ble_eq_true rfl⟩) hP hD hS hA [] [0, 1] rfl rfl (by decide) (by decide) (fun r_3 u_3 H locs hw_3 hP hD hS => ?_)
        clear k_3
        have hP : va_P D kl [(h, .inr (7, [.ref sl, .int na, .ref zs, .ref ln, .ref ir, .ref tk, .int su, .int le, .ref tb, .int fu, .int ap, .int pp, .ref tr, .int tc, .ref fz, .int nm])), (sl, .inl (cI, 1653, .inl sf))] H := hP
        have hD : va_D A [(h, .inr (7, [.ref sl, .int na, .ref zs, .ref ln, .ref ir, .ref tk, .int su, .int le, .ref tb, .int fu, .int ap, .int pp, .ref tr, .int tc, .ref fz, .int nm])), (sl, .inl (cI, 1653, .inl sf))] := hD
        have c3_0 := hw_3
        rcases c3_0 with e_3 | e_3
        · subst e_3
          refine lv_if_eq (tgt := 65) hx hb dX8_dearest_19 (by decide) (fun c9 => absurd c9 (by decide)) (fun _ => ?_)
          refine lv_iload hx hb dX8_dearest_22 (lv_at hl 1 rfl) ?_
          refine lv_if_lt (tgt := 60) hx hb dX8_dearest_24 (by decide) (fun c_4 => ?_) (fun c_4 => ?_)
          · have f_4 : t4_c6.toInt < 0 := zi_lt c_4
            refine lv_iload hx hb dX8_dearest_60 (lv_at hl 0 rfl) ?_
            refine lv_goto (tgt := 67) hx hb dX8_dearest_62 (by decide) ?_
            refine lv_istore (lv' := [(4, .int t5_c6), (5, .int t5_c6), (0, .ref h), (1, .int k), (2, .int b), (3, .int v)]) hx hb dX8_dearest_67 hl (by decide) rfl (fun ls hl => ?_)
            obtain ⟨x_5, ex_5⟩ : ∃ y : Int32, y = t5_c6 + Int32.ofInt 1 := ⟨_, rfl⟩
            refine lv_iinc (v := x_5) (lv' := [(5, .int x_5), (4, .int t5_c6), (0, .ref h), (1, .int k), (2, .int b), (3, .int v)]) hx hb dX8_dearest_69 hl (k := 1) rfl ex_5.symm (by decide) rfl (fun ls hl => ?_)
            have ex_5 : x_5 = t5_c6 + 1 := ex_5
            have e_5 : x_5.toInt = t5_c6.toInt + 1 := by rw [ex_5]; exact zi_add (rfl) (by decide) (by omega) (by omega)
            clear ex_5
            refine lv_goto (tgt := 6) hx hb dX8_dearest_72 (by decide) ?_
            exact ih6 x_5 t5_c6 _ _ _ (show 0 ≤ x_5.toInt ∧ x_5.toInt ≤ 8 from by omega) (show (-1) ≤ t5_c6.toInt ∧ t5_c6.toInt ≤ 7 from by omega) (by omega) (hP.sub [0, 1] rfl) (hD.sub [0, 1] (by decide) rfl) hS (lv_sub hl [0, 1, 2, 3, 4, 5] rfl)
          · have f_4 : ¬ t4_c6.toInt < 0 := zi_nlt c_4
            refine lv_aload_n hx hb dX8_dearest_27 rfl (lv_at hl 2 rfl) ?_
            refine va_get (D := D) (ci := 7) (v := .ref sl) (C := RX8) (T := TX8) (N := 16) hx hb hts (fun _ h => List.mem_cons_of_mem _ (List.mem_append_right _ h)) hown hK hP 0 rfl rfl 0 (by decide) (hts (.fieldLink RX8 7 "WinterWalkModel" "slot" "[I") (List.mem_of_getElem? (i := 1) rfl)) (fun _ h9 => h9) rfl dX8_dearest_28 ?_
            refine lv_iload_n hx hb dX8_dearest_31 rfl (lv_at hl 3 rfl) ?_
            refine lv_bipush (v := 57) hx hb dX8_dearest_32 (by decide) ?_
            refine lv_imul hx hb dX8_dearest_34 ?_
            refine lv_topi (fun x_6 ex_6 => ?_)
            have e_6 : x_6.toInt = k.toInt * 57 := by rw [ex_6]; exact zi_mul (rfl) (by decide) (by omega) (by omega)
            clear ex_6
            refine lv_bipush (v := 23) hx hb dX8_dearest_35 (by decide) ?_
            refine lv_iadd hx hb dX8_dearest_37 ?_
            refine lv_topi (fun x_7 ex_7 => ?_)
            have e_7 : x_7.toInt = x_6.toInt + 23 := by rw [ex_7]; exact zi_add (rfl) (by decide) (by omega) (by omega)
            clear ex_7
            refine lv_iload hx hb dX8_dearest_38 (lv_at hl 0 rfl) ?_
            refine lv_iadd hx hb dX8_dearest_40 ?_
            refine lv_topi (fun x_8 ex_8 => ?_)
            have e_8 : x_8.toInt = x_7.toInt + t5_c6.toInt := by rw [ex_8]; exact zi_add (rfl) (rfl) (by omega) (by omega)
            clear ex_8
            refine va_iald hx hb hK hP 1 0 rfl rfl (zi_in (by omega) (by omega)) dX8_dearest_41 ?_
            refine lv_topi (fun x_9 ex_9 => ?_)
            clear ex_9
            refine lv_aload_n hx hb dX8_dearest_42 rfl (lv_at hl 2 rfl) ?_
            refine va_get (D := D) (ci := 7) (v := .ref sl) (C := RX8) (T := TX8) (N := 16) hx hb hts (fun _ h => List.mem_cons_of_mem _ (List.mem_append_right _ h)) hown hK hP 0 rfl rfl 0 (by decide) (hts (.fieldLink RX8 7 "WinterWalkModel" "slot" "[I") (List.mem_of_getElem? (i := 1) rfl)) (fun _ h9 => h9) rfl dX8_dearest_43 ?_
            refine lv_iload_n hx hb dX8_dearest_46 rfl (lv_at hl 3 rfl) ?_
            refine lv_bipush (v := 57) hx hb dX8_dearest_47 (by decide) ?_
            refine lv_imul hx hb dX8_dearest_49 ?_
            refine lv_topi (fun x_10 ex_10 => ?_)
            have e_10 : x_10.toInt = k.toInt * 57 := by rw [ex_10]; exact zi_mul (rfl) (by decide) (by omega) (by omega)
            clear ex_10
            refine lv_bipush (v := 23) hx hb dX8_dearest_50 (by decide) ?_
            refine lv_iadd hx hb dX8_dearest_52 ?_
            refine lv_topi (fun x_11 ex_11 => ?_)
            have e_11 : x_11.toInt = x_10.toInt + 23 := by rw [ex_11]; exact zi_add (rfl) (by decide) (by omega) (by omega)
            clear ex_11
            refine lv_iload hx hb dX8_dearest_53 (lv_at hl 1 rfl) ?_
            refine lv_iadd hx hb dX8_dearest_55 ?_
            refine lv_topi (fun x_12 ex_12 => ?_)
            have e_12 : x_12.toInt = x_11.toInt + t4_c6.toInt := by rw [ex_12]; exact zi_add (rfl) (rfl) (by omega) (by omega)
            clear ex_12
            refine va_iald hx hb hK hP 1 0 rfl rfl (zi_in (by omega) (by omega)) dX8_dearest_56 ?_
            refine lv_topi (fun x_13 ex_13 => ?_)
            clear ex_13
            refine lv_icmp_le (tgt := 65) hx hb dX8_dearest_57 (by decide) (fun c_14 => ?_) (fun c_14 => ?_)
            · have f_14 : x_9.toInt ≤ x_13.toInt := zi_le c_14
              refine lv_iload hx hb dX8_dearest_65 (lv_at hl 1 rfl) ?_
              refine lv_istore (lv' := [(4, .int t4_c6), (5, .int t5_c6), (0, .ref h), (1, .int k), (2, .int b), (3, .int v)]) hx hb dX8_dearest_67 hl (by decide) rfl (fun ls hl => ?_)
              obtain ⟨x_15, ex_15⟩ : ∃ y : Int32, y = t5_c6 + Int32.ofInt 1 := ⟨_, rfl⟩
              refine lv_iinc (v := x_15) (lv' := [(5, .int x_15), (4, .int t4_c6), (0, .ref h), (1, .int k), (2, .int b), (3, .int v)]) hx hb dX8_dearest_69 hl (k := 1) rfl ex_15.symm (by decide) rfl (fun ls hl => ?_)
              have ex_15 : x_15 = t5_c6 + 1 := ex_15
              have e_15 : x_15.toInt = t5_c6.toInt + 1 := by rw [ex_15]; exact zi_add (rfl) (by decide) (by omega) (by omega)
              clear ex_15
              refine lv_goto (tgt := 6) hx hb dX8_dearest_72 (by decide) ?_
              exact ih6 x_15 t4_c6 _ _ _ (show 0 ≤ x_15.toInt ∧ x_15.toInt ≤ 8 from by omega) (show (-1) ≤ t4_c6.toInt ∧ t4_c6.toInt ≤ 7 from by omega) (by omega) (hP.sub [0, 1] rfl) (hD.sub [0, 1] (by decide) rfl) hS (lv_sub hl [0, 1, 2, 3, 4, 5] rfl)
            · have f_14 : ¬ x_9.toInt ≤ x_13.toInt := zi_nle c_14
              refine lv_iload hx hb dX8_dearest_60 (lv_at hl 0 rfl) ?_
              refine lv_goto (tgt := 67) hx hb dX8_dearest_62 (by decide) ?_
              refine lv_istore (lv' := [(4, .int t5_c6), (5, .int t5_c6), (0, .ref h), (1, .int k), (2, .int b), (3, .int v)]) hx hb dX8_dearest_67 hl (by decide) rfl (fun ls hl => ?_)
              obtain ⟨x_16, ex_16⟩ : ∃ y : Int32, y = t5_c6 + Int32.ofInt 1 := ⟨_, rfl⟩
              refine lv_iinc (v := x_16) (lv' := [(5, .int x_16), (4, .int t5_c6), (0, .ref h), (1, .int k), (2, .int b), (3, .int v)]) hx hb dX8_dearest_69 hl (k := 1) rfl ex_16.symm (by decide) rfl (fun ls hl => ?_)
              have ex_16 : x_16 = t5_c6 + 1 := ex_16
              have e_16 : x_16.toInt = t5_c6.toInt + 1 := by rw [ex_16]; exact zi_add (rfl) (by decide) (by omega) (by omega)
              clear ex_16
              refine lv_goto (tgt := 6) hx hb dX8_dearest_72 (by decide) ?_
              exact ih6 x_16 t5_c6 _ _ _ (show 0 ≤ x_16.toInt ∧ x_16.toInt ≤ 8 from by omega) (show (-1) ≤ t5_c6.toInt ∧ t5_c6.toInt ≤ 7 from by omega) (by omega) (hP.sub [0, 1] rfl) (hD.sub [0, 1] (by decide) rfl) hS (lv_sub hl [0, 1, 2, 3, 4, 5] rfl)
        · subst e_3
          refine lv_if_eq (tgt := 65) hx hb dX8_dearest_19 (by decide) (fun _ => ?_) (fun c9 => absurd (by decide) c9)
          refine lv_iload hx hb dX8_dearest_65 (lv_at hl 1 rfl) ?_
          refine lv_istore (lv' := [(4, .int t4_c6), (5, .int t5_c6), (0, .ref h), (1, .int k), (2, .int b), (3, .int v)]) hx hb dX8_dearest_67 hl (by decide) rfl (fun ls hl => ?_)
          obtain ⟨x_17, ex_17⟩ : ∃ y : Int32, y = t5_c6 + Int32.ofInt 1 := ⟨_, rfl⟩
          refine lv_iinc (v := x_17) (lv' := [(5, .int x_17), (4, .int t4_c6), (0, .ref h), (1, .int k), (2, .int b), (3, .int v)]) hx hb dX8_dearest_69 hl (k := 1) rfl ex_17.symm (by decide) rfl (fun ls hl => ?_)
          have ex_17 : x_17 = t5_c6 + 1 := ex_17
          have e_17 : x_17.toInt = t5_c6.toInt + 1 := by rw [ex_17]; exact zi_add (rfl) (by decide) (by omega) (by omega)
          clear ex_17
          refine lv_goto (tgt := 6) hx hb dX8_dearest_72 (by decide) ?_
          exact ih6 x_17 t4_c6 _ _ _ (show 0 ≤ x_17.toInt ∧ x_17.toInt ≤ 8 from by omega) (show (-1) ≤ t4_c6.toInt ∧ t4_c6.toInt ≤ 7 from by omega) (by omega) (hP.sub [0, 1] rfl) (hD.sub [0, 1] (by decide) rfl) hS (lv_sub hl [0, 1, 2, 3, 4, 5] rfl)
  exact hL6 (((8 - (0 : Int32).toInt).toNat) + 1) 0 (-1) _ _ _ (show 0 ≤ 0 ∧ 0 ≤ 8 from by omega) (show (-1) ≤ (-1) ∧ (-1) ≤ 7 from by omega) (Nat.lt_succ_self _) (hP.sub [0, 1] rfl) (hD.sub [0, 1] (by decide) rfl) hS (lv_sub hl [0, 1, 2, 3, 4, 5] rfl)
set_option maxHeartbeats 4000000 in
set_option maxRecDepth 100000 in
theorem g_X8_rarest (l : Launch) (D : va_G) (cI cB cQ : ClassId) (sz : Nat) (h : Nat) (sl : Nat) (zs : Nat) (ln : Nat) (ir : Nat) (tk : Nat) (tb : Nat) (tr : Nat) (fz : Nat) (na : Int32) (su : Int32) (le : Int32) (fu : Int32) (ap : Int32) (pp : Int32) (tc : Int32) (nm : Int32) (k : Int32) (v : Int32) (sf : Nat → Int32) (v0 : Int) (hsi : SI sf v0) (h_k : 0 ≤ k.toInt ∧ k.toInt ≤ 28) (h_v : 0 ≤ v.toInt ∧ v.toInt ≤ 7) : mi l yX8_rarest wsX8_rarest ({ frames := 1, cells := 0, slots := 0, locals := 22 }) D cI cB cQ [.ref h, .int k, .int v] sz [(h, .inr (7, [.ref sl, .int na, .ref zs, .ref ln, .ref ir, .ref tk, .int su, .int le, .ref tb, .int fu, .int ap, .int pp, .ref tr, .int tc, .ref fz, .int nm])), (sl, .inl (cI, 1653, .inl sf))] (fun (r : Int32) (_u : Unit) => (0 ≤ r.toInt ∧ r.toInt ≤ 7)) (fun _ => [(h, .inr (7, [.ref sl, .int na, .ref zs, .ref ln, .ref ir, .ref tk, .int su, .int le, .ref tb, .int fu, .int ap, .int pp, .ref tr, .int tc, .ref fz, .int nm])), (sl, .inl (cI, 1653, .inl sf))]) 0 0 := by
  refine wm_i (cc := cX8_rarest) (maxL := 6) (ret := (some .int)) (by decide) rfl (Nat.le_of_ble_eq_true rfl) ?_
  intro p e s m below meth c A ls hx hb hr hml hown hts hlocks hin hP hK hD hN hA hl hS
  have hown : s.vm.findClass RX8 = some m.cls := hown
  have hl : lv_has ls 6 [(0, .ref h), (1, .int k), (2, .int v)] := hl
  change W p l e ({ frames := 1, cells := 0, slots := 0, locals := 22 }) s m ([.ref h, .int k, .int v] : List Value).toArray below meth c s.heap [] 0 0 (MQ below (va_Qi (fun (r : Int32) (_u : Unit) => (0 ≤ r.toInt ∧ r.toInt ≤ 7)) (fun u t => wb D A ((fun _ => [(h, .inr (7, [.ref sl, .int na, .ref zs, .ref ln, .ref ir, .ref tk, .int su, .int le, .ref tb, .int fu, .int ap, .int pp, .ref tr, .int tc, .ref fz, .int nm])), (sl, .inl (cI, 1653, .inl sf))]) u) t) A) ([.ref h, .int k, .int v] : List Value).toArray s 0 0 A) (F0 m 0 ls [])
  refine lv_aload_n hx hb dX8_rarest_0 rfl (lv_at hl 0 rfl) ?_
  refine lv_iload_n hx hb dX8_rarest_1 rfl (lv_at hl 1 rfl) ?_
  refine lv_iload_n hx hb dX8_rarest_2 rfl (lv_at hl 2 rfl) ?_
  have k_1 := (g_X8_open l D cI cB cQ s.heap.size h sl zs ln ir tk tb tr fz na su le fu ap pp tc nm k v sf v0 hsi (by omega) (by omega))
  refine wc_i (WC := [(h, .inr (7, [.ref sl, .int na, .ref zs, .ref ln, .ref ir, .ref tk, .int su, .int le, .ref tb, .int fu, .int ap, .int pp, .ref tr, .int tc, .ref fz, .int nm])), (sl, .inl (cI, 1653, .inl sf))]) (WR := []) (va_runV (As := [.int k, .int v]) (rest := []) ⟨hx, hb, hml, hown, hts⟩ k_1 (cwV 2 hts gX8_rarest_X8_open rfl rfl rfl (by decide +kernel) ⟨Nat.le_of_ble_eq_true rfl, Nat.le_of_ble_eq_true rfl⟩) (wp_V hP hK hD hN [0, 1] (by decide) rfl (ci := 7) rfl rfl) rfl rfl hl.1 rfl (lv_room (Nat.le_of_ble_eq_true rfl)) dX8_rarest_3 ⟨Nat.le_of_ble_eq_true rfl, Nat.le_of_ble_eq_true rfl⟩) hP hD hS hA [0, 1] [] rfl rfl (by decide) (by decide) (fun r_1 u_1 H locs hw_1 hP hD hS => ?_)
  clear k_1
  have hP : va_P D kl [(h, .inr (7, [.ref sl, .int na, .ref zs, .ref ln, .ref ir, .ref tk, .int su, .int le, .ref tb, .int fu, .int ap, .int pp, .ref tr, .int tc, .ref fz, .int nm])), (sl, .inl (cI, 1653, .inl sf))] H := hP
  have hD : va_D A [(h, .inr (7, [.ref sl, .int na, .ref zs, .ref ln, .ref ir, .ref tk, .int su, .int le, .ref tb, .int fu, .int ap, .int pp, .ref tr, .int tc, .ref fz, .int nm])), (sl, .inl (cI, 1653, .inl sf))] := hD
  clear hw_1
  refine lv_istore_n (lv' := [(3, .int r_1), (0, .ref h), (1, .int k), (2, .int v)]) hx hb dX8_rarest_6 rfl hl (by decide) rfl (fun ls hl => ?_)
  refine lv_iconst (v := (-1)) hx hb dX8_rarest_7 (by decide) ?_
  refine lv_istore (lv' := [(4, .int (-1)), (3, .int r_1), (0, .ref h), (1, .int k), (2, .int v)]) hx hb dX8_rarest_8 hl (by decide) rfl (fun ls hl => ?_)
  refine lv_iconst (v := 0) hx hb dX8_rarest_10 (by decide) ?_
  refine lv_istore (lv' := [(5, .int 0), (4, .int (-1)), (3, .int r_1), (0, .ref h), (1, .int k), (2, .int v)]) hx hb dX8_rarest_11 hl (by decide) rfl (fun ls hl => ?_)
  have hL13 : ∀ (nf : Nat) (t5_c13 : Int32) (t4_c13 : Int32) (H : Heap) (locs : List Loc) (ls : Array Slot), (0 ≤ t5_c13.toInt ∧ t5_c13.toInt ≤ 8) → ((-1) ≤ t4_c13.toInt ∧ t4_c13.toInt ≤ 7) → (8 - t5_c13.toInt).toNat < nf → va_P D kl [(h, .inr (7, [.ref sl, .int na, .ref zs, .ref ln, .ref ir, .ref tk, .int su, .int le, .ref tb, .int fu, .int ap, .int pp, .ref tr, .int tc, .ref fz, .int nm])), (sl, .inl (cI, 1653, .inl sf))] H → va_D A [(h, .inr (7, [.ref sl, .int na, .ref zs, .ref ln, .ref ir, .ref tk, .int su, .int le, .ref tb, .int fu, .int ap, .int pp, .ref tr, .int tc, .ref fz, .int nm])), (sl, .inl (cI, 1653, .inl sf))] → va_S A s.heap H locs → lv_has ls 6 [(5, .int t5_c13), (4, .int t4_c13), (3, .int r_1), (0, .ref h), (1, .int k), (2, .int v)] → W p l e ({ frames := 1, cells := 0, slots := 0, locals := 22 }) s m ([.ref h, .int k, .int v] : List Value).toArray below meth c H locs 0 0 (MQ below (va_Qi (fun (r : Int32) (_u : Unit) => (0 ≤ r.toInt ∧ r.toInt ≤ 7)) (fun u t => wb D A ((fun _ => [(h, .inr (7, [.ref sl, .int na, .ref zs, .ref ln, .ref ir, .ref tk, .int su, .int le, .ref tb, .int fu, .int ap, .int pp, .ref tr, .int tc, .ref fz, .int nm])), (sl, .inl (cI, 1653, .inl sf))]) u) t) A) ([.ref h, .int k, .int v] : List Value).toArray s 0 0 A) (F0 m 13 ls []) := by
    intro nf
    induction nf with
    | zero =>
      intro t5_c13 t4_c13 H locs ls i_t5_c13 i_t4_c13 hm
      exact absurd hm (Nat.not_lt_zero _)
    | succ nf ih13 =>
      intro t5_c13 t4_c13 H locs ls i_t5_c13 i_t4_c13 hm13 hP hD hS hl
      refine lv_iload hx hb dX8_rarest_13 (lv_at hl 0 rfl) ?_
      refine lv_bipush (v := 8) hx hb dX8_rarest_15 (by decide) ?_
      refine lv_icmp_ge (tgt := 82) hx hb dX8_rarest_17 (by decide) (fun c_2 => ?_) (fun c_2 => ?_)
      · have f_2 : 8 ≤ t5_c13.toInt := zi_le c_2
        refine lv_iload hx hb dX8_rarest_82 (lv_at hl 1 rfl) ?_
        refine lv_if_ge (tgt := 91) hx hb dX8_rarest_84 (by decide) (fun c_3 => ?_) (fun c_3 => ?_)
        · have f_3 : 0 ≤ t4_c13.toInt := zi_le c_3
          refine lv_iload hx hb dX8_rarest_91 (lv_at hl 1 rfl) ?_
          exact wr_i (v := t4_c13) hx hb hr hlocks hS () (by exact (by omega)) (hP.sub [0, 1] rfl) (hD.sub [0, 1] (by decide) rfl) dX8_rarest_93
        · have f_3 : ¬ 0 ≤ t4_c13.toInt := zi_nle c_3
          refine lv_iload_n hx hb dX8_rarest_87 rfl (lv_at hl 5 rfl) ?_
          refine lv_goto (tgt := 93) hx hb dX8_rarest_88 (by decide) ?_
          exact wr_i (v := v) hx hb hr hlocks hS () (by exact (by omega)) (hP.sub [0, 1] rfl) (hD.sub [0, 1] (by decide) rfl) dX8_rarest_93
      · have f_2 : ¬ 8 ≤ t5_c13.toInt := zi_nle c_2
        refine lv_iload_n hx hb dX8_rarest_20 rfl (lv_at hl 2 rfl) ?_
        refine lv_iload hx hb dX8_rarest_21 (lv_at hl 0 rfl) ?_
        have k_4 := (g_X8_has l D cI cB cQ H.size r_1 t5_c13)
        refine wc_i (WC := []) (WR := [(h, .inr (7, [.ref sl, .int na, .ref zs, .ref ln, .ref ir, .ref tk, .int su, .int le, .ref tb, .int fu, .int ap, .int pp, .ref tr, .int tc, .ref fz, .int nm])), (sl, .inl (cI, 1653, .inl sf))]) (va_runS (As := [.int r_1, .int t5_c13]) (rest := []) ⟨hx, hb, hml, hown, hts⟩ k_4 (va_cwS 2 hts gX8_rarest_X8_has rfl rfl rfl (by decide +kernel) ⟨Nat.le_of_ble_eq_true rfl, Nat.le_of_ble_eq_true rfl⟩) (wp_S hP hK hD hN [] (by decide) rfl) rfl rfl hl.1 rfl (lv_room (Nat.le_of_ble_eq_true rfl)) dX8_rarest_23 ⟨Nat.le_of_ble_eq_true rfl, Nat.le_of_ble_eq_true rfl⟩) hP hD hS hA [] [0, 1] rfl rfl (by decide) (by decide) (fun r_4 u_4 H locs hw_4 hP hD hS => ?_)
        clear k_4
        have hP : va_P D kl [(h, .inr (7, [.ref sl, .int na, .ref zs, .ref ln, .ref ir, .ref tk, .int su, .int le, .ref tb, .int fu, .int ap, .int pp, .ref tr, .int tc, .ref fz, .int nm])), (sl, .inl (cI, 1653, .inl sf))] H := hP
        have hD : va_D A [(h, .inr (7, [.ref sl, .int na, .ref zs, .ref ln, .ref ir, .ref tk, .int su, .int le, .ref tb, .int fu, .int ap, .int pp, .ref tr, .int tc, .ref fz, .int nm])), (sl, .inl (cI, 1653, .inl sf))] := hD
        have c4_0 := hw_4
        rcases c4_0 with e_4 | e_4
        · subst e_4
          refine lv_if_eq (tgt := 72) hx hb dX8_rarest_26 (by decide) (fun c9 => absurd c9 (by decide)) (fun _ => ?_)
          refine lv_iload hx hb dX8_rarest_29 (lv_at hl 1 rfl) ?_
          refine lv_if_lt (tgt := 67) hx hb dX8_rarest_31 (by decide) (fun c_5 => ?_) (fun c_5 => ?_)
          · have f_5 : t4_c13.toInt < 0 := zi_lt c_5
            refine lv_iload hx hb dX8_rarest_67 (lv_at hl 0 rfl) ?_
            refine lv_goto (tgt := 74) hx hb dX8_rarest_69 (by decide) ?_
            refine lv_istore (lv' := [(4, .int t5_c13), (5, .int t5_c13), (3, .int r_1), (0, .ref h), (1, .int k), (2, .int v)]) hx hb dX8_rarest_74 hl (by decide) rfl (fun ls hl => ?_)
            obtain ⟨x_6, ex_6⟩ : ∃ y : Int32, y = t5_c13 + Int32.ofInt 1 := ⟨_, rfl⟩
            refine lv_iinc (v := x_6) (lv' := [(5, .int x_6), (4, .int t5_c13), (3, .int r_1), (0, .ref h), (1, .int k), (2, .int v)]) hx hb dX8_rarest_76 hl (k := 1) rfl ex_6.symm (by decide) rfl (fun ls hl => ?_)
            have ex_6 : x_6 = t5_c13 + 1 := ex_6
            have e_6 : x_6.toInt = t5_c13.toInt + 1 := by rw [ex_6]; exact zi_add (rfl) (by decide) (by omega) (by omega)
            clear ex_6
            refine lv_goto (tgt := 13) hx hb dX8_rarest_79 (by decide) ?_
            exact ih13 x_6 t5_c13 _ _ _ (show 0 ≤ x_6.toInt ∧ x_6.toInt ≤ 8 from by omega) (show (-1) ≤ t5_c13.toInt ∧ t5_c13.toInt ≤ 7 from by omega) (by omega) (hP.sub [0, 1] rfl) (hD.sub [0, 1] (by decide) rfl) hS (lv_sub hl [0, 1, 2, 3, 4, 5] rfl)
          · have f_5 : ¬ t4_c13.toInt < 0 := zi_nlt c_5
            refine lv_aload_n hx hb dX8_rarest_34 rfl (lv_at hl 3 rfl) ?_
            refine va_get (D := D) (ci := 7) (v := .ref sl) (C := RX8) (T := TX8) (N := 16) hx hb hts (fun _ h => List.mem_cons_of_mem _ (List.mem_append_right _ h)) hown hK hP 0 rfl rfl 0 (by decide) (hts (.fieldLink RX8 7 "WinterWalkModel" "slot" "[I") (List.mem_of_getElem? (i := 1) rfl)) (fun _ h9 => h9) rfl dX8_rarest_35 ?_
            refine lv_iload_n hx hb dX8_rarest_38 rfl (lv_at hl 4 rfl) ?_
            refine lv_bipush (v := 57) hx hb dX8_rarest_39 (by decide) ?_
            refine lv_imul hx hb dX8_rarest_41 ?_
            refine lv_topi (fun x_7 ex_7 => ?_)
            have e_7 : x_7.toInt = k.toInt * 57 := by rw [ex_7]; exact zi_mul (rfl) (by decide) (by omega) (by omega)
            clear ex_7
            refine lv_bipush (v := 40) hx hb dX8_rarest_42 (by decide) ?_
            refine lv_iadd hx hb dX8_rarest_44 ?_
            refine lv_topi (fun x_8 ex_8 => ?_)
            have e_8 : x_8.toInt = x_7.toInt + 40 := by rw [ex_8]; exact zi_add (rfl) (by decide) (by omega) (by omega)
            clear ex_8
            refine lv_iload hx hb dX8_rarest_45 (lv_at hl 0 rfl) ?_
            refine lv_iadd hx hb dX8_rarest_47 ?_
            refine lv_topi (fun x_9 ex_9 => ?_)
            have e_9 : x_9.toInt = x_8.toInt + t5_c13.toInt := by rw [ex_9]; exact zi_add (rfl) (rfl) (by omega) (by omega)
            clear ex_9
            refine va_iald hx hb hK hP 1 0 rfl rfl (zi_in (by omega) (by omega)) dX8_rarest_48 ?_
            refine lv_topi (fun x_10 ex_10 => ?_)
            clear ex_10
            refine lv_aload_n hx hb dX8_rarest_49 rfl (lv_at hl 3 rfl) ?_
            refine va_get (D := D) (ci := 7) (v := .ref sl) (C := RX8) (T := TX8) (N := 16) hx hb hts (fun _ h => List.mem_cons_of_mem _ (List.mem_append_right _ h)) hown hK hP 0 rfl rfl 0 (by decide) (hts (.fieldLink RX8 7 "WinterWalkModel" "slot" "[I") (List.mem_of_getElem? (i := 1) rfl)) (fun _ h9 => h9) rfl dX8_rarest_50 ?_
            refine lv_iload_n hx hb dX8_rarest_53 rfl (lv_at hl 4 rfl) ?_
            refine lv_bipush (v := 57) hx hb dX8_rarest_54 (by decide) ?_
            refine lv_imul hx hb dX8_rarest_56 ?_
            refine lv_topi (fun x_11 ex_11 => ?_)
            have e_11 : x_11.toInt = k.toInt * 57 := by rw [ex_11]; exact zi_mul (rfl) (by decide) (by omega) (by omega)
            clear ex_11
            refine lv_bipush (v := 40) hx hb dX8_rarest_57 (by decide) ?_
            refine lv_iadd hx hb dX8_rarest_59 ?_
            refine lv_topi (fun x_12 ex_12 => ?_)
            have e_12 : x_12.toInt = x_11.toInt + 40 := by rw [ex_12]; exact zi_add (rfl) (by decide) (by omega) (by omega)
            clear ex_12
            refine lv_iload hx hb dX8_rarest_60 (lv_at hl 1 rfl) ?_
            refine lv_iadd hx hb dX8_rarest_62 ?_
            refine lv_topi (fun x_13 ex_13 => ?_)
            have e_13 : x_13.toInt = x_12.toInt + t4_c13.toInt := by rw [ex_13]; exact zi_add (rfl) (rfl) (by omega) (by omega)
            clear ex_13
            refine va_iald hx hb hK hP 1 0 rfl rfl (zi_in (by omega) (by omega)) dX8_rarest_63 ?_
            refine lv_topi (fun x_14 ex_14 => ?_)
            clear ex_14
            refine lv_icmp_ge (tgt := 72) hx hb dX8_rarest_64 (by decide) (fun c_15 => ?_) (fun c_15 => ?_)
            · have f_15 : x_14.toInt ≤ x_10.toInt := zi_le c_15
              refine lv_iload hx hb dX8_rarest_72 (lv_at hl 1 rfl) ?_
              refine lv_istore (lv' := [(4, .int t4_c13), (5, .int t5_c13), (3, .int r_1), (0, .ref h), (1, .int k), (2, .int v)]) hx hb dX8_rarest_74 hl (by decide) rfl (fun ls hl => ?_)
              obtain ⟨x_16, ex_16⟩ : ∃ y : Int32, y = t5_c13 + Int32.ofInt 1 := ⟨_, rfl⟩
              refine lv_iinc (v := x_16) (lv' := [(5, .int x_16), (4, .int t4_c13), (3, .int r_1), (0, .ref h), (1, .int k), (2, .int v)]) hx hb dX8_rarest_76 hl (k := 1) rfl ex_16.symm (by decide) rfl (fun ls hl => ?_)
              have ex_16 : x_16 = t5_c13 + 1 := ex_16
              have e_16 : x_16.toInt = t5_c13.toInt + 1 := by rw [ex_16]; exact zi_add (rfl) (by decide) (by omega) (by omega)
              clear ex_16
              refine lv_goto (tgt := 13) hx hb dX8_rarest_79 (by decide) ?_
              exact ih13 x_16 t4_c13 _ _ _ (show 0 ≤ x_16.toInt ∧ x_16.toInt ≤ 8 from by omega) (show (-1) ≤ t4_c13.toInt ∧ t4_c13.toInt ≤ 7 from by omega) (by omega) (hP.sub [0, 1] rfl) (hD.sub [0, 1] (by decide) rfl) hS (lv_sub hl [0, 1, 2, 3, 4, 5] rfl)
            · have f_15 : ¬ x_14.toInt ≤ x_10.toInt := zi_nle c_15
              refine lv_iload hx hb dX8_rarest_67 (lv_at hl 0 rfl) ?_
              refine lv_goto (tgt := 74) hx hb dX8_rarest_69 (by decide) ?_
              refine lv_istore (lv' := [(4, .int t5_c13), (5, .int t5_c13), (3, .int r_1), (0, .ref h), (1, .int k), (2, .int v)]) hx hb dX8_rarest_74 hl (by decide) rfl (fun ls hl => ?_)
              obtain ⟨x_17, ex_17⟩ : ∃ y : Int32, y = t5_c13 + Int32.ofInt 1 := ⟨_, rfl⟩
              refine lv_iinc (v := x_17) (lv' := [(5, .int x_17), (4, .int t5_c13), (3, .int r_1), (0, .ref h), (1, .int k), (2, .int v)]) hx hb dX8_rarest_76 hl (k := 1) rfl ex_17.symm (by decide) rfl (fun ls hl => ?_)
              have ex_17 : x_17 = t5_c13 + 1 := ex_17
              have e_17 : x_17.toInt = t5_c13.toInt + 1 := by rw [ex_17]; exact zi_add (rfl) (by decide) (by omega) (by omega)
              clear ex_17
              refine lv_goto (tgt := 13) hx hb dX8_rarest_79 (by decide) ?_
              exact ih13 x_17 t5_c13 _ _ _ (show 0 ≤ x_17.toInt ∧ x_17.toInt ≤ 8 from by omega) (show (-1) ≤ t5_c13.toInt ∧ t5_c13.toInt ≤ 7 from by omega) (by omega) (hP.sub [0, 1] rfl) (hD.sub [0, 1] (by decide) rfl) hS (lv_sub hl [0, 1, 2, 3, 4, 5] rfl)
        · subst e_4
          refine lv_if_eq (tgt := 72) hx hb dX8_rarest_26 (by decide) (fun _ => ?_) (fun c9 => absurd (by decide) c9)
          refine lv_iload hx hb dX8_rarest_72 (lv_at hl 1 rfl) ?_
          refine lv_istore (lv' := [(4, .int t4_c13), (5, .int t5_c13), (3, .int r_1), (0, .ref h), (1, .int k), (2, .int v)]) hx hb dX8_rarest_74 hl (by decide) rfl (fun ls hl => ?_)
          obtain ⟨x_18, ex_18⟩ : ∃ y : Int32, y = t5_c13 + Int32.ofInt 1 := ⟨_, rfl⟩
          refine lv_iinc (v := x_18) (lv' := [(5, .int x_18), (4, .int t4_c13), (3, .int r_1), (0, .ref h), (1, .int k), (2, .int v)]) hx hb dX8_rarest_76 hl (k := 1) rfl ex_18.symm (by decide) rfl (fun ls hl => ?_)
          have ex_18 : x_18 = t5_c13 + 1 := ex_18
          have e_18 : x_18.toInt = t5_c13.toInt + 1 := by rw [ex_18]; exact zi_add (rfl) (by decide) (by omega) (by omega)
          clear ex_18
          refine lv_goto (tgt := 13) hx hb dX8_rarest_79 (by decide) ?_
          exact ih13 x_18 t4_c13 _ _ _ (show 0 ≤ x_18.toInt ∧ x_18.toInt ≤ 8 from by omega) (show (-1) ≤ t4_c13.toInt ∧ t4_c13.toInt ≤ 7 from by omega) (by omega) (hP.sub [0, 1] rfl) (hD.sub [0, 1] (by decide) rfl) hS (lv_sub hl [0, 1, 2, 3, 4, 5] rfl)
  exact hL13 (((8 - (0 : Int32).toInt).toNat) + 1) 0 (-1) _ _ _ (show 0 ≤ 0 ∧ 0 ≤ 8 from by omega) (show (-1) ≤ (-1) ∧ (-1) ≤ 7 from by omega) (Nat.lt_succ_self _) (hP.sub [0, 1] rfl) (hD.sub [0, 1] (by decide) rfl) hS (lv_sub hl [0, 1, 2, 3, 4, 5] rfl)
set_option maxHeartbeats 4000000 in
set_option maxRecDepth 100000 in
theorem g_X8_goesTo (l : Launch) (D : va_G) (cI cB cQ : ClassId) (sz : Nat) (h : Nat) (sl : Nat) (zs : Nat) (ln : Nat) (ir : Nat) (tk : Nat) (tb : Nat) (tr : Nat) (fz : Nat) (na : Int32) (su : Int32) (le : Int32) (fu : Int32) (ap : Int32) (pp : Int32) (tc : Int32) (nm : Int32) (k : Int32) (v : Int32) (sf : Nat → Int32) (v0 : Int) (hsi : SI sf v0) (h_k : 0 ≤ k.toInt ∧ k.toInt ≤ 28) (h_v : 0 ≤ v.toInt ∧ v.toInt ≤ 2) : mi l yX8_goesTo wsX8_goesTo ({ frames := 2, cells := 0, slots := 0, locals := 47 }) D cI cB cQ [.ref h, .int k, .int v] sz [(h, .inr (7, [.ref sl, .int na, .ref zs, .ref ln, .ref ir, .ref tk, .int su, .int le, .ref tb, .int fu, .int ap, .int pp, .ref tr, .int tc, .ref fz, .int nm])), (sl, .inl (cI, 1653, .inl sf))] (fun (r : Int32) (_u : Unit) => (0 ≤ r.toInt ∧ r.toInt ≤ 7)) (fun _ => [(h, .inr (7, [.ref sl, .int na, .ref zs, .ref ln, .ref ir, .ref tk, .int su, .int le, .ref tb, .int fu, .int ap, .int pp, .ref tr, .int tc, .ref fz, .int nm])), (sl, .inl (cI, 1653, .inl sf))]) 0 0 := by
  refine wm_i (cc := cX8_goesTo) (maxL := 7) (ret := (some .int)) (by decide) rfl (Nat.le_of_ble_eq_true rfl) ?_
  intro p e s m below meth c A ls hx hb hr hml hown hts hlocks hin hP hK hD hN hA hl hS
  have hown : s.vm.findClass RX8 = some m.cls := hown
  have hl : lv_has ls 7 [(0, .ref h), (1, .int k), (2, .int v)] := hl
  change W p l e ({ frames := 2, cells := 0, slots := 0, locals := 47 }) s m ([.ref h, .int k, .int v] : List Value).toArray below meth c s.heap [] 0 0 (MQ below (va_Qi (fun (r : Int32) (_u : Unit) => (0 ≤ r.toInt ∧ r.toInt ≤ 7)) (fun u t => wb D A ((fun _ => [(h, .inr (7, [.ref sl, .int na, .ref zs, .ref ln, .ref ir, .ref tk, .int su, .int le, .ref tb, .int fu, .int ap, .int pp, .ref tr, .int tc, .ref fz, .int nm])), (sl, .inl (cI, 1653, .inl sf))]) u) t) A) ([.ref h, .int k, .int v] : List Value).toArray s 0 0 A) (F0 m 0 ls [])
  refine lv_aload_n hx hb dX8_goesTo_0 rfl (lv_at hl 0 rfl) ?_
  refine va_get (D := D) (ci := 7) (v := .ref sl) (C := RX8) (T := TX8) (N := 16) hx hb hts (fun _ h => List.mem_cons_of_mem _ (List.mem_append_right _ h)) hown hK hP 0 rfl rfl 0 (by decide) (hts (.fieldLink RX8 7 "WinterWalkModel" "slot" "[I") (List.mem_of_getElem? (i := 1) rfl)) (fun _ h9 => h9) rfl dX8_goesTo_1 ?_
  refine lv_iload_n hx hb dX8_goesTo_4 rfl (lv_at hl 1 rfl) ?_
  refine lv_bipush (v := 57) hx hb dX8_goesTo_5 (by decide) ?_
  refine lv_imul hx hb dX8_goesTo_7 ?_
  refine lv_topi (fun x_1 ex_1 => ?_)
  have e_1 : x_1.toInt = k.toInt * 57 := by rw [ex_1]; exact zi_mul (rfl) (by decide) (by omega) (by omega)
  clear ex_1
  refine lv_bipush (v := 48) hx hb dX8_goesTo_8 (by decide) ?_
  refine lv_iadd hx hb dX8_goesTo_10 ?_
  refine lv_topi (fun x_2 ex_2 => ?_)
  have e_2 : x_2.toInt = x_1.toInt + 48 := by rw [ex_2]; exact zi_add (rfl) (by decide) (by omega) (by omega)
  clear ex_2
  refine lv_iload_n hx hb dX8_goesTo_11 rfl (lv_at hl 2 rfl) ?_
  refine lv_iadd hx hb dX8_goesTo_12 ?_
  refine lv_topi (fun x_3 ex_3 => ?_)
  have e_3 : x_3.toInt = x_2.toInt + v.toInt := by rw [ex_3]; exact zi_add (rfl) (rfl) (by omega) (by omega)
  clear ex_3
  refine va_iald hx hb hK hP 1 0 rfl rfl (zi_in (by omega) (by omega)) dX8_goesTo_13 ?_
  refine lv_topi (fun x_4 ex_4 => ?_)
  have f_4 : 0 ≤ x_4.toInt ∧ x_4.toInt ≤ 7 := by rw [ex_4]; exact si_a hsi (s := k.toInt) (k := v.toInt) (by omega) (by omega) (by omega)
  clear ex_4
  refine lv_istore_n (lv' := [(3, .int x_4), (0, .ref h), (1, .int k), (2, .int v)]) hx hb dX8_goesTo_14 rfl hl (by decide) rfl (fun ls hl => ?_)
  refine lv_aload_n hx hb dX8_goesTo_15 rfl (lv_at hl 1 rfl) ?_
  refine va_get (D := D) (ci := 7) (v := .ref sl) (C := RX8) (T := TX8) (N := 16) hx hb hts (fun _ h => List.mem_cons_of_mem _ (List.mem_append_right _ h)) hown hK hP 0 rfl rfl 0 (by decide) (hts (.fieldLink RX8 7 "WinterWalkModel" "slot" "[I") (List.mem_of_getElem? (i := 1) rfl)) (fun _ h9 => h9) rfl dX8_goesTo_16 ?_
  refine lv_iload_n hx hb dX8_goesTo_19 rfl (lv_at hl 2 rfl) ?_
  refine lv_bipush (v := 57) hx hb dX8_goesTo_20 (by decide) ?_
  refine lv_imul hx hb dX8_goesTo_22 ?_
  refine lv_topi (fun x_5 ex_5 => ?_)
  have e_5 : x_5.toInt = k.toInt * 57 := by rw [ex_5]; exact zi_mul (rfl) (by decide) (by omega) (by omega)
  clear ex_5
  refine lv_bipush (v := 51) hx hb dX8_goesTo_23 (by decide) ?_
  refine lv_iadd hx hb dX8_goesTo_25 ?_
  refine lv_topi (fun x_6 ex_6 => ?_)
  have e_6 : x_6.toInt = x_5.toInt + 51 := by rw [ex_6]; exact zi_add (rfl) (by decide) (by omega) (by omega)
  clear ex_6
  refine lv_iload_n hx hb dX8_goesTo_26 rfl (lv_at hl 3 rfl) ?_
  refine lv_iadd hx hb dX8_goesTo_27 ?_
  refine lv_topi (fun x_7 ex_7 => ?_)
  have e_7 : x_7.toInt = x_6.toInt + v.toInt := by rw [ex_7]; exact zi_add (rfl) (rfl) (by omega) (by omega)
  clear ex_7
  refine va_iald hx hb hK hP 1 0 rfl rfl (zi_in (by omega) (by omega)) dX8_goesTo_28 ?_
  refine lv_topi (fun x_8 ex_8 => ?_)
  clear ex_8
  refine lv_istore (lv' := [(4, .int x_8), (3, .int x_4), (0, .ref h), (1, .int k), (2, .int v)]) hx hb dX8_goesTo_29 hl (by decide) rfl (fun ls hl => ?_)
  refine lv_aload_n hx hb dX8_goesTo_31 rfl (lv_at hl 2 rfl) ?_
  refine lv_iload_n hx hb dX8_goesTo_32 rfl (lv_at hl 3 rfl) ?_
  refine lv_iload_n hx hb dX8_goesTo_33 rfl (lv_at hl 1 rfl) ?_
  have k_9 := (g_X8_open l D cI cB cQ s.heap.size h sl zs ln ir tk tb tr fz na su le fu ap pp tc nm k x_4 sf v0 hsi (by omega) (by omega))
  refine wc_i (WC := [(h, .inr (7, [.ref sl, .int na, .ref zs, .ref ln, .ref ir, .ref tk, .int su, .int le, .ref tb, .int fu, .int ap, .int pp, .ref tr, .int tc, .ref fz, .int nm])), (sl, .inl (cI, 1653, .inl sf))]) (WR := []) (va_runV (As := [.int k, .int x_4]) (rest := []) ⟨hx, hb, hml, hown, hts⟩ k_9 (cwV 2 hts gX8_goesTo_X8_open rfl rfl rfl (by decide +kernel) ⟨Nat.le_of_ble_eq_true rfl, Nat.le_of_ble_eq_true rfl⟩) (wp_V hP hK hD hN [0, 1] (by decide) rfl (ci := 7) rfl rfl) rfl rfl hl.1 rfl (lv_room (Nat.le_of_ble_eq_true rfl)) dX8_goesTo_34 ⟨Nat.le_of_ble_eq_true rfl, Nat.le_of_ble_eq_true rfl⟩) hP hD hS hA [0, 1] [] rfl rfl (by decide) (by decide) (fun r_9 u_9 H locs hw_9 hP hD hS => ?_)
  clear k_9
  have hP : va_P D kl [(h, .inr (7, [.ref sl, .int na, .ref zs, .ref ln, .ref ir, .ref tk, .int su, .int le, .ref tb, .int fu, .int ap, .int pp, .ref tr, .int tc, .ref fz, .int nm])), (sl, .inl (cI, 1653, .inl sf))] H := hP
  have hD : va_D A [(h, .inr (7, [.ref sl, .int na, .ref zs, .ref ln, .ref ir, .ref tk, .int su, .int le, .ref tb, .int fu, .int ap, .int pp, .ref tr, .int tc, .ref fz, .int nm])), (sl, .inl (cI, 1653, .inl sf))] := hD
  clear hw_9
  refine lv_istore (lv' := [(5, .int r_9), (4, .int x_8), (3, .int x_4), (0, .ref h), (1, .int k), (2, .int v)]) hx hb dX8_goesTo_37 hl (by decide) rfl (fun ls hl => ?_)
  refine lv_aload_n hx hb dX8_goesTo_39 rfl (lv_at hl 3 rfl) ?_
  refine va_get (D := D) (ci := 7) (v := .ref sl) (C := RX8) (T := TX8) (N := 16) hx hb hts (fun _ h => List.mem_cons_of_mem _ (List.mem_append_right _ h)) hown hK hP 0 rfl rfl 0 (by decide) (hts (.fieldLink RX8 7 "WinterWalkModel" "slot" "[I") (List.mem_of_getElem? (i := 1) rfl)) (fun _ h9 => h9) rfl dX8_goesTo_40 ?_
  refine lv_iload_n hx hb dX8_goesTo_43 rfl (lv_at hl 4 rfl) ?_
  refine lv_bipush (v := 57) hx hb dX8_goesTo_44 (by decide) ?_
  refine lv_imul hx hb dX8_goesTo_46 ?_
  refine lv_topi (fun x_10 ex_10 => ?_)
  have e_10 : x_10.toInt = k.toInt * 57 := by rw [ex_10]; exact zi_mul (rfl) (by decide) (by omega) (by omega)
  clear ex_10
  refine lv_bipush (v := 20) hx hb dX8_goesTo_47 (by decide) ?_
  refine lv_iadd hx hb dX8_goesTo_49 ?_
  refine lv_topi (fun x_11 ex_11 => ?_)
  have e_11 : x_11.toInt = x_10.toInt + 20 := by rw [ex_11]; exact zi_add (rfl) (by decide) (by omega) (by omega)
  clear ex_11
  refine lv_iload_n hx hb dX8_goesTo_50 rfl (lv_at hl 5 rfl) ?_
  refine lv_iadd hx hb dX8_goesTo_51 ?_
  refine lv_topi (fun x_12 ex_12 => ?_)
  have e_12 : x_12.toInt = x_11.toInt + v.toInt := by rw [ex_12]; exact zi_add (rfl) (rfl) (by omega) (by omega)
  clear ex_12
  refine va_iald hx hb hK hP 1 0 rfl rfl (zi_in (by omega) (by omega)) dX8_goesTo_52 ?_
  refine lv_topi (fun x_13 ex_13 => ?_)
  clear ex_13
  by_cases f_14 : x_13.toInt < 1 ∨ 4 < x_13.toInt
  · refine lv_tableOut (tgt := 171) hx hb dX8_goesTo_53 f_14 (by decide) ?_
    refine lv_aload_n hx hb dX8_goesTo_171 rfl (lv_at hl 3 rfl) ?_
    refine lv_iload_n hx hb dX8_goesTo_172 rfl (lv_at hl 4 rfl) ?_
    refine lv_aload_n hx hb dX8_goesTo_173 rfl (lv_at hl 3 rfl) ?_
    refine lv_iload_n hx hb dX8_goesTo_174 rfl (lv_at hl 4 rfl) ?_
    refine lv_iload_n hx hb dX8_goesTo_175 rfl (lv_at hl 2 rfl) ?_
    have k_15 := (g_X8_rarest l D cI cB cQ H.size h sl zs ln ir tk tb tr fz na su le fu ap pp tc nm k x_4 sf v0 hsi (by omega) (by omega))
    refine wc_i (WC := [(h, .inr (7, [.ref sl, .int na, .ref zs, .ref ln, .ref ir, .ref tk, .int su, .int le, .ref tb, .int fu, .int ap, .int pp, .ref tr, .int tc, .ref fz, .int nm])), (sl, .inl (cI, 1653, .inl sf))]) (WR := []) (va_runV (As := [.int k, .int x_4]) (rest := [.int k, .ref h]) ⟨hx, hb, hml, hown, hts⟩ k_15 (cwV 2 hts gX8_goesTo_X8_rarest rfl rfl rfl (by decide +kernel) ⟨Nat.le_of_ble_eq_true rfl, Nat.le_of_ble_eq_true rfl⟩) (wp_V hP hK hD hN [0, 1] (by decide) rfl (ci := 7) rfl rfl) rfl rfl hl.1 rfl (lv_room (Nat.le_of_ble_eq_true rfl)) dX8_goesTo_176 ⟨Nat.le_of_ble_eq_true rfl, Nat.le_of_ble_eq_true rfl⟩) hP hD hS hA [0, 1] [] rfl rfl (by decide) (by decide) (fun r_15 u_15 H locs hw_15 hP hD hS => ?_)
    clear k_15
    have hP : va_P D kl [(h, .inr (7, [.ref sl, .int na, .ref zs, .ref ln, .ref ir, .ref tk, .int su, .int le, .ref tb, .int fu, .int ap, .int pp, .ref tr, .int tc, .ref fz, .int nm])), (sl, .inl (cI, 1653, .inl sf))] H := hP
    have hD : va_D A [(h, .inr (7, [.ref sl, .int na, .ref zs, .ref ln, .ref ir, .ref tk, .int su, .int le, .ref tb, .int fu, .int ap, .int pp, .ref tr, .int tc, .ref fz, .int nm])), (sl, .inl (cI, 1653, .inl sf))] := hD
    have c15_0 := hw_15
    have c15_0 : 0 ≤ r_15.toInt ∧ r_15.toInt ≤ 7 := c15_0
    have k_16 := (g_X8_rarest l D cI cB cQ H.size h sl zs ln ir tk tb tr fz na su le fu ap pp tc nm k r_15 sf v0 hsi (by omega) (by omega))
    refine wc_i (WC := [(h, .inr (7, [.ref sl, .int na, .ref zs, .ref ln, .ref ir, .ref tk, .int su, .int le, .ref tb, .int fu, .int ap, .int pp, .ref tr, .int tc, .ref fz, .int nm])), (sl, .inl (cI, 1653, .inl sf))]) (WR := []) (va_runV (As := [.int k, .int r_15]) (rest := []) ⟨hx, hb, hml, hown, hts⟩ k_16 (cwV 2 hts gX8_goesTo_X8_rarest rfl rfl rfl (by decide +kernel) ⟨Nat.le_of_ble_eq_true rfl, Nat.le_of_ble_eq_true rfl⟩) (wp_V hP hK hD hN [0, 1] (by decide) rfl (ci := 7) rfl rfl) rfl rfl hl.1 rfl (lv_room (Nat.le_of_ble_eq_true rfl)) dX8_goesTo_179 ⟨Nat.le_of_ble_eq_true rfl, Nat.le_of_ble_eq_true rfl⟩) hP hD hS hA [0, 1] [] rfl rfl (by decide) (by decide) (fun r_16 u_16 H locs hw_16 hP hD hS => ?_)
    clear k_16
    have hP : va_P D kl [(h, .inr (7, [.ref sl, .int na, .ref zs, .ref ln, .ref ir, .ref tk, .int su, .int le, .ref tb, .int fu, .int ap, .int pp, .ref tr, .int tc, .ref fz, .int nm])), (sl, .inl (cI, 1653, .inl sf))] H := hP
    have hD : va_D A [(h, .inr (7, [.ref sl, .int na, .ref zs, .ref ln, .ref ir, .ref tk, .int su, .int le, .ref tb, .int fu, .int ap, .int pp, .ref tr, .int tc, .ref fz, .int nm])), (sl, .inl (cI, 1653, .inl sf))] := hD
    have c16_0 := hw_16
    have c16_0 : 0 ≤ r_16.toInt ∧ r_16.toInt ≤ 7 := c16_0
    exact wr_i (v := r_16) hx hb hr hlocks hS () (by exact (by omega)) (hP.sub [0, 1] rfl) (hD.sub [0, 1] (by decide) rfl) dX8_goesTo_182
  · rcases (show x_13.toInt = 1 ∨ x_13.toInt = 2 ∨ x_13.toInt = 3 ∨ x_13.toInt = 4 by omega) with g_14 | g_14 | g_14 | g_14
    · refine lv_tableIn (off := 31) (tgt := 84) hx hb dX8_goesTo_53 (by omega) (by omega) (by rw [g_14]; rfl) (by decide) ?_
      refine lv_aload_n hx hb dX8_goesTo_84 rfl (lv_at hl 3 rfl) ?_
      refine lv_iload_n hx hb dX8_goesTo_85 rfl (lv_at hl 4 rfl) ?_
      refine lv_iload hx hb dX8_goesTo_86 (lv_at hl 0 rfl) ?_
      refine lv_iload_n hx hb dX8_goesTo_88 rfl (lv_at hl 2 rfl) ?_
      have k_17 := (g_X8_dearest l D cI cB cQ H.size h sl zs ln ir tk tb tr fz na su le fu ap pp tc nm k r_9 x_4 sf v0 hsi (by omega) (by omega))
      refine wc_i (WC := [(h, .inr (7, [.ref sl, .int na, .ref zs, .ref ln, .ref ir, .ref tk, .int su, .int le, .ref tb, .int fu, .int ap, .int pp, .ref tr, .int tc, .ref fz, .int nm])), (sl, .inl (cI, 1653, .inl sf))]) (WR := []) (va_runV (As := [.int k, .int r_9, .int x_4]) (rest := []) ⟨hx, hb, hml, hown, hts⟩ k_17 (cwV 3 hts gX8_goesTo_X8_dearest rfl rfl rfl (by decide +kernel) ⟨Nat.le_of_ble_eq_true rfl, Nat.le_of_ble_eq_true rfl⟩) (wp_V hP hK hD hN [0, 1] (by decide) rfl (ci := 7) rfl rfl) rfl rfl hl.1 rfl (lv_room (Nat.le_of_ble_eq_true rfl)) dX8_goesTo_89 ⟨Nat.le_of_ble_eq_true rfl, Nat.le_of_ble_eq_true rfl⟩) hP hD hS hA [0, 1] [] rfl rfl (by decide) (by decide) (fun r_17 u_17 H locs hw_17 hP hD hS => ?_)
      clear k_17
      have hP : va_P D kl [(h, .inr (7, [.ref sl, .int na, .ref zs, .ref ln, .ref ir, .ref tk, .int su, .int le, .ref tb, .int fu, .int ap, .int pp, .ref tr, .int tc, .ref fz, .int nm])), (sl, .inl (cI, 1653, .inl sf))] H := hP
      have hD : va_D A [(h, .inr (7, [.ref sl, .int na, .ref zs, .ref ln, .ref ir, .ref tk, .int su, .int le, .ref tb, .int fu, .int ap, .int pp, .ref tr, .int tc, .ref fz, .int nm])), (sl, .inl (cI, 1653, .inl sf))] := hD
      have c17_0 := hw_17
      have c17_0 : 0 ≤ r_17.toInt ∧ r_17.toInt ≤ 7 := c17_0
      exact wr_i (v := r_17) hx hb hr hlocks hS () (by exact (by omega)) (hP.sub [0, 1] rfl) (hD.sub [0, 1] (by decide) rfl) dX8_goesTo_92
    · refine lv_tableIn (off := 40) (tgt := 93) hx hb dX8_goesTo_53 (by omega) (by omega) (by rw [g_14]; rfl) (by decide) ?_
      refine lv_aload_n hx hb dX8_goesTo_93 rfl (lv_at hl 3 rfl) ?_
      refine va_get (D := D) (ci := 7) (v := .ref sl) (C := RX8) (T := TX8) (N := 16) hx hb hts (fun _ h => List.mem_cons_of_mem _ (List.mem_append_right _ h)) hown hK hP 0 rfl rfl 0 (by decide) (hts (.fieldLink RX8 7 "WinterWalkModel" "slot" "[I") (List.mem_of_getElem? (i := 1) rfl)) (fun _ h9 => h9) rfl dX8_goesTo_94 ?_
      refine lv_iload_n hx hb dX8_goesTo_97 rfl (lv_at hl 4 rfl) ?_
      refine lv_bipush (v := 57) hx hb dX8_goesTo_98 (by decide) ?_
      refine lv_imul hx hb dX8_goesTo_100 ?_
      refine lv_topi (fun x_18 ex_18 => ?_)
      have e_18 : x_18.toInt = k.toInt * 57 := by rw [ex_18]; exact zi_mul (rfl) (by decide) (by omega) (by omega)
      clear ex_18
      refine lv_bipush (v := 54) hx hb dX8_goesTo_101 (by decide) ?_
      refine lv_iadd hx hb dX8_goesTo_103 ?_
      refine lv_topi (fun x_19 ex_19 => ?_)
      have e_19 : x_19.toInt = x_18.toInt + 54 := by rw [ex_19]; exact zi_add (rfl) (by decide) (by omega) (by omega)
      clear ex_19
      refine va_iald hx hb hK hP 1 0 rfl rfl (zi_in (by omega) (by omega)) dX8_goesTo_104 ?_
      refine lv_topi (fun x_20 ex_20 => ?_)
      clear ex_20
      refine lv_iconst (v := 3) hx hb dX8_goesTo_105 (by decide) ?_
      refine lv_irem hx hb dX8_goesTo_106 (by decide) ?_
      refine lv_topi (fun x_21 ex_21 => ?_)
      clear ex_21
      refine lv_iconst (v := 2) hx hb dX8_goesTo_107 (by decide) ?_
      refine lv_icmp_ne (tgt := 115) hx hb dX8_goesTo_108 (by decide) (fun c_22 => ?_) (fun c_22 => ?_)
      · have f_22 : ¬ x_21.toInt = 2 := zi_ne c_22
        refine lv_aload_n hx hb dX8_goesTo_115 rfl (lv_at hl 3 rfl) ?_
        refine lv_iload_n hx hb dX8_goesTo_116 rfl (lv_at hl 4 rfl) ?_
        refine lv_iload hx hb dX8_goesTo_117 (lv_at hl 0 rfl) ?_
        refine lv_iload_n hx hb dX8_goesTo_119 rfl (lv_at hl 2 rfl) ?_
        have k_23 := (g_X8_dearest l D cI cB cQ H.size h sl zs ln ir tk tb tr fz na su le fu ap pp tc nm k r_9 x_4 sf v0 hsi (by omega) (by omega))
        refine wc_i (WC := [(h, .inr (7, [.ref sl, .int na, .ref zs, .ref ln, .ref ir, .ref tk, .int su, .int le, .ref tb, .int fu, .int ap, .int pp, .ref tr, .int tc, .ref fz, .int nm])), (sl, .inl (cI, 1653, .inl sf))]) (WR := []) (va_runV (As := [.int k, .int r_9, .int x_4]) (rest := []) ⟨hx, hb, hml, hown, hts⟩ k_23 (cwV 3 hts gX8_goesTo_X8_dearest rfl rfl rfl (by decide +kernel) ⟨Nat.le_of_ble_eq_true rfl, Nat.le_of_ble_eq_true rfl⟩) (wp_V hP hK hD hN [0, 1] (by decide) rfl (ci := 7) rfl rfl) rfl rfl hl.1 rfl (lv_room (Nat.le_of_ble_eq_true rfl)) dX8_goesTo_120 ⟨Nat.le_of_ble_eq_true rfl, Nat.le_of_ble_eq_true rfl⟩) hP hD hS hA [0, 1] [] rfl rfl (by decide) (by decide) (fun r_23 u_23 H locs hw_23 hP hD hS => ?_)
        clear k_23
        have hP : va_P D kl [(h, .inr (7, [.ref sl, .int na, .ref zs, .ref ln, .ref ir, .ref tk, .int su, .int le, .ref tb, .int fu, .int ap, .int pp, .ref tr, .int tc, .ref fz, .int nm])), (sl, .inl (cI, 1653, .inl sf))] H := hP
        have hD : va_D A [(h, .inr (7, [.ref sl, .int na, .ref zs, .ref ln, .ref ir, .ref tk, .int su, .int le, .ref tb, .int fu, .int ap, .int pp, .ref tr, .int tc, .ref fz, .int nm])), (sl, .inl (cI, 1653, .inl sf))] := hD
        have c23_0 := hw_23
        have c23_0 : 0 ≤ r_23.toInt ∧ r_23.toInt ≤ 7 := c23_0
        exact wr_i (v := r_23) hx hb hr hlocks hS () (by exact (by omega)) (hP.sub [0, 1] rfl) (hD.sub [0, 1] (by decide) rfl) dX8_goesTo_123
      · have f_22 : x_21.toInt = 2 := zi_eq c_22
        refine lv_iload_n hx hb dX8_goesTo_111 rfl (lv_at hl 2 rfl) ?_
        refine lv_goto (tgt := 123) hx hb dX8_goesTo_112 (by decide) ?_
        exact wr_i (v := x_4) hx hb hr hlocks hS () (by exact (by omega)) (hP.sub [0, 1] rfl) (hD.sub [0, 1] (by decide) rfl) dX8_goesTo_123
    · refine lv_tableIn (off := 71) (tgt := 124) hx hb dX8_goesTo_53 (by omega) (by omega) (by rw [g_14]; rfl) (by decide) ?_
      refine lv_iload hx hb dX8_goesTo_124 (lv_at hl 1 rfl) ?_
      refine lv_if_ge (tgt := 134) hx hb dX8_goesTo_126 (by decide) (fun c_24 => ?_) (fun c_24 => ?_)
      · have f_24 : 0 ≤ x_8.toInt := zi_le c_24
        refine lv_iload hx hb dX8_goesTo_134 (lv_at hl 0 rfl) ?_
        refine lv_iconst (v := 1) hx hb dX8_goesTo_136 (by decide) ?_
        refine lv_iload hx hb dX8_goesTo_137 (lv_at hl 1 rfl) ?_
        refine lv_ishl hx hb dX8_goesTo_139 ?_
        refine lv_topi (fun x_25 ex_25 => ?_)
        clear ex_25
        refine lv_iconst (v := (-1)) hx hb dX8_goesTo_140 (by decide) ?_
        refine lv_ixor hx hb dX8_goesTo_141 ?_
        refine lv_topi (fun x_26 ex_26 => ?_)
        clear ex_26
        refine lv_iand hx hb dX8_goesTo_142 ?_
        refine lv_topi (fun x_27 ex_27 => ?_)
        clear ex_27
        refine lv_istore (lv' := [(6, .int x_27), (5, .int r_9), (4, .int x_8), (3, .int x_4), (0, .ref h), (1, .int k), (2, .int v)]) hx hb dX8_goesTo_143 hl (by decide) rfl (fun ls hl => ?_)
        refine lv_aload_n hx hb dX8_goesTo_145 rfl (lv_at hl 4 rfl) ?_
        refine lv_iload_n hx hb dX8_goesTo_146 rfl (lv_at hl 5 rfl) ?_
        refine lv_iload hx hb dX8_goesTo_147 (lv_at hl 0 rfl) ?_
        refine lv_if_ne (tgt := 157) hx hb dX8_goesTo_149 (by decide) (fun c_28 => ?_) (fun c_28 => ?_)
        · have f_28 : ¬ x_27.toInt = 0 := zi_ne c_28
          refine lv_iload hx hb dX8_goesTo_157 (lv_at hl 0 rfl) ?_
          refine lv_iload_n hx hb dX8_goesTo_159 rfl (lv_at hl 3 rfl) ?_
          have k_29 := (g_X8_dearest l D cI cB cQ H.size h sl zs ln ir tk tb tr fz na su le fu ap pp tc nm k x_27 x_4 sf v0 hsi (by omega) (by omega))
          refine wc_i (WC := [(h, .inr (7, [.ref sl, .int na, .ref zs, .ref ln, .ref ir, .ref tk, .int su, .int le, .ref tb, .int fu, .int ap, .int pp, .ref tr, .int tc, .ref fz, .int nm])), (sl, .inl (cI, 1653, .inl sf))]) (WR := []) (va_runV (As := [.int k, .int x_27, .int x_4]) (rest := []) ⟨hx, hb, hml, hown, hts⟩ k_29 (cwV 3 hts gX8_goesTo_X8_dearest rfl rfl rfl (by decide +kernel) ⟨Nat.le_of_ble_eq_true rfl, Nat.le_of_ble_eq_true rfl⟩) (wp_V hP hK hD hN [0, 1] (by decide) rfl (ci := 7) rfl rfl) rfl rfl hl.1 rfl (lv_room (Nat.le_of_ble_eq_true rfl)) dX8_goesTo_160 ⟨Nat.le_of_ble_eq_true rfl, Nat.le_of_ble_eq_true rfl⟩) hP hD hS hA [0, 1] [] rfl rfl (by decide) (by decide) (fun r_29 u_29 H locs hw_29 hP hD hS => ?_)
          clear k_29
          have hP : va_P D kl [(h, .inr (7, [.ref sl, .int na, .ref zs, .ref ln, .ref ir, .ref tk, .int su, .int le, .ref tb, .int fu, .int ap, .int pp, .ref tr, .int tc, .ref fz, .int nm])), (sl, .inl (cI, 1653, .inl sf))] H := hP
          have hD : va_D A [(h, .inr (7, [.ref sl, .int na, .ref zs, .ref ln, .ref ir, .ref tk, .int su, .int le, .ref tb, .int fu, .int ap, .int pp, .ref tr, .int tc, .ref fz, .int nm])), (sl, .inl (cI, 1653, .inl sf))] := hD
          have c29_0 := hw_29
          have c29_0 : 0 ≤ r_29.toInt ∧ r_29.toInt ≤ 7 := c29_0
          exact wr_i (v := r_29) hx hb hr hlocks hS () (by exact (by omega)) (hP.sub [0, 1] rfl) (hD.sub [0, 1] (by decide) rfl) dX8_goesTo_163
        · have f_28 : x_27.toInt = 0 := zi_eq c_28
          refine lv_iload hx hb dX8_goesTo_152 (lv_at hl 1 rfl) ?_
          refine lv_goto (tgt := 159) hx hb dX8_goesTo_154 (by decide) ?_
          refine lv_iload_n hx hb dX8_goesTo_159 rfl (lv_at hl 3 rfl) ?_
          have k_30 := (g_X8_dearest l D cI cB cQ H.size h sl zs ln ir tk tb tr fz na su le fu ap pp tc nm k r_9 x_4 sf v0 hsi (by omega) (by omega))
          refine wc_i (WC := [(h, .inr (7, [.ref sl, .int na, .ref zs, .ref ln, .ref ir, .ref tk, .int su, .int le, .ref tb, .int fu, .int ap, .int pp, .ref tr, .int tc, .ref fz, .int nm])), (sl, .inl (cI, 1653, .inl sf))]) (WR := []) (va_runV (As := [.int k, .int r_9, .int x_4]) (rest := []) ⟨hx, hb, hml, hown, hts⟩ k_30 (cwV 3 hts gX8_goesTo_X8_dearest rfl rfl rfl (by decide +kernel) ⟨Nat.le_of_ble_eq_true rfl, Nat.le_of_ble_eq_true rfl⟩) (wp_V hP hK hD hN [0, 1] (by decide) rfl (ci := 7) rfl rfl) rfl rfl hl.1 rfl (lv_room (Nat.le_of_ble_eq_true rfl)) dX8_goesTo_160 ⟨Nat.le_of_ble_eq_true rfl, Nat.le_of_ble_eq_true rfl⟩) hP hD hS hA [0, 1] [] rfl rfl (by decide) (by decide) (fun r_30 u_30 H locs hw_30 hP hD hS => ?_)
          clear k_30
          have hP : va_P D kl [(h, .inr (7, [.ref sl, .int na, .ref zs, .ref ln, .ref ir, .ref tk, .int su, .int le, .ref tb, .int fu, .int ap, .int pp, .ref tr, .int tc, .ref fz, .int nm])), (sl, .inl (cI, 1653, .inl sf))] H := hP
          have hD : va_D A [(h, .inr (7, [.ref sl, .int na, .ref zs, .ref ln, .ref ir, .ref tk, .int su, .int le, .ref tb, .int fu, .int ap, .int pp, .ref tr, .int tc, .ref fz, .int nm])), (sl, .inl (cI, 1653, .inl sf))] := hD
          have c30_0 := hw_30
          have c30_0 : 0 ≤ r_30.toInt ∧ r_30.toInt ≤ 7 := c30_0
          exact wr_i (v := r_30) hx hb hr hlocks hS () (by exact (by omega)) (hP.sub [0, 1] rfl) (hD.sub [0, 1] (by decide) rfl) dX8_goesTo_163
      · have f_24 : ¬ 0 ≤ x_8.toInt := zi_nle c_24
        refine lv_iload hx hb dX8_goesTo_129 (lv_at hl 0 rfl) ?_
        refine lv_goto (tgt := 143) hx hb dX8_goesTo_131 (by decide) ?_
        refine lv_istore (lv' := [(6, .int r_9), (5, .int r_9), (4, .int x_8), (3, .int x_4), (0, .ref h), (1, .int k), (2, .int v)]) hx hb dX8_goesTo_143 hl (by decide) rfl (fun ls hl => ?_)
        refine lv_aload_n hx hb dX8_goesTo_145 rfl (lv_at hl 4 rfl) ?_
        refine lv_iload_n hx hb dX8_goesTo_146 rfl (lv_at hl 5 rfl) ?_
        refine lv_iload hx hb dX8_goesTo_147 (lv_at hl 0 rfl) ?_
        refine lv_if_ne (tgt := 157) hx hb dX8_goesTo_149 (by decide) (fun c_31 => ?_) (fun c_31 => ?_)
        · have f_31 : ¬ r_9.toInt = 0 := zi_ne c_31
          refine lv_iload hx hb dX8_goesTo_157 (lv_at hl 0 rfl) ?_
          refine lv_iload_n hx hb dX8_goesTo_159 rfl (lv_at hl 3 rfl) ?_
          have k_32 := (g_X8_dearest l D cI cB cQ H.size h sl zs ln ir tk tb tr fz na su le fu ap pp tc nm k r_9 x_4 sf v0 hsi (by omega) (by omega))
          refine wc_i (WC := [(h, .inr (7, [.ref sl, .int na, .ref zs, .ref ln, .ref ir, .ref tk, .int su, .int le, .ref tb, .int fu, .int ap, .int pp, .ref tr, .int tc, .ref fz, .int nm])), (sl, .inl (cI, 1653, .inl sf))]) (WR := []) (va_runV (As := [.int k, .int r_9, .int x_4]) (rest := []) ⟨hx, hb, hml, hown, hts⟩ k_32 (cwV 3 hts gX8_goesTo_X8_dearest rfl rfl rfl (by decide +kernel) ⟨Nat.le_of_ble_eq_true rfl, Nat.le_of_ble_eq_true rfl⟩) (wp_V hP hK hD hN [0, 1] (by decide) rfl (ci := 7) rfl rfl) rfl rfl hl.1 rfl (lv_room (Nat.le_of_ble_eq_true rfl)) dX8_goesTo_160 ⟨Nat.le_of_ble_eq_true rfl, Nat.le_of_ble_eq_true rfl⟩) hP hD hS hA [0, 1] [] rfl rfl (by decide) (by decide) (fun r_32 u_32 H locs hw_32 hP hD hS => ?_)
          clear k_32
          have hP : va_P D kl [(h, .inr (7, [.ref sl, .int na, .ref zs, .ref ln, .ref ir, .ref tk, .int su, .int le, .ref tb, .int fu, .int ap, .int pp, .ref tr, .int tc, .ref fz, .int nm])), (sl, .inl (cI, 1653, .inl sf))] H := hP
          have hD : va_D A [(h, .inr (7, [.ref sl, .int na, .ref zs, .ref ln, .ref ir, .ref tk, .int su, .int le, .ref tb, .int fu, .int ap, .int pp, .ref tr, .int tc, .ref fz, .int nm])), (sl, .inl (cI, 1653, .inl sf))] := hD
          have c32_0 := hw_32
          have c32_0 : 0 ≤ r_32.toInt ∧ r_32.toInt ≤ 7 := c32_0
          exact wr_i (v := r_32) hx hb hr hlocks hS () (by exact (by omega)) (hP.sub [0, 1] rfl) (hD.sub [0, 1] (by decide) rfl) dX8_goesTo_163
        · have f_31 : r_9.toInt = 0 := zi_eq c_31
          refine lv_iload hx hb dX8_goesTo_152 (lv_at hl 1 rfl) ?_
          refine lv_goto (tgt := 159) hx hb dX8_goesTo_154 (by decide) ?_
          refine lv_iload_n hx hb dX8_goesTo_159 rfl (lv_at hl 3 rfl) ?_
          have k_33 := (g_X8_dearest l D cI cB cQ H.size h sl zs ln ir tk tb tr fz na su le fu ap pp tc nm k r_9 x_4 sf v0 hsi (by omega) (by omega))
          refine wc_i (WC := [(h, .inr (7, [.ref sl, .int na, .ref zs, .ref ln, .ref ir, .ref tk, .int su, .int le, .ref tb, .int fu, .int ap, .int pp, .ref tr, .int tc, .ref fz, .int nm])), (sl, .inl (cI, 1653, .inl sf))]) (WR := []) (va_runV (As := [.int k, .int r_9, .int x_4]) (rest := []) ⟨hx, hb, hml, hown, hts⟩ k_33 (cwV 3 hts gX8_goesTo_X8_dearest rfl rfl rfl (by decide +kernel) ⟨Nat.le_of_ble_eq_true rfl, Nat.le_of_ble_eq_true rfl⟩) (wp_V hP hK hD hN [0, 1] (by decide) rfl (ci := 7) rfl rfl) rfl rfl hl.1 rfl (lv_room (Nat.le_of_ble_eq_true rfl)) dX8_goesTo_160 ⟨Nat.le_of_ble_eq_true rfl, Nat.le_of_ble_eq_true rfl⟩) hP hD hS hA [0, 1] [] rfl rfl (by decide) (by decide) (fun r_33 u_33 H locs hw_33 hP hD hS => ?_)
          clear k_33
          have hP : va_P D kl [(h, .inr (7, [.ref sl, .int na, .ref zs, .ref ln, .ref ir, .ref tk, .int su, .int le, .ref tb, .int fu, .int ap, .int pp, .ref tr, .int tc, .ref fz, .int nm])), (sl, .inl (cI, 1653, .inl sf))] H := hP
          have hD : va_D A [(h, .inr (7, [.ref sl, .int na, .ref zs, .ref ln, .ref ir, .ref tk, .int su, .int le, .ref tb, .int fu, .int ap, .int pp, .ref tr, .int tc, .ref fz, .int nm])), (sl, .inl (cI, 1653, .inl sf))] := hD
          have c33_0 := hw_33
          have c33_0 : 0 ≤ r_33.toInt ∧ r_33.toInt ≤ 7 := c33_0
          exact wr_i (v := r_33) hx hb hr hlocks hS () (by exact (by omega)) (hP.sub [0, 1] rfl) (hD.sub [0, 1] (by decide) rfl) dX8_goesTo_163
    · refine lv_tableIn (off := 111) (tgt := 164) hx hb dX8_goesTo_53 (by omega) (by omega) (by rw [g_14]; rfl) (by decide) ?_
      refine lv_aload_n hx hb dX8_goesTo_164 rfl (lv_at hl 3 rfl) ?_
      refine lv_iload_n hx hb dX8_goesTo_165 rfl (lv_at hl 4 rfl) ?_
      refine lv_iload_n hx hb dX8_goesTo_166 rfl (lv_at hl 2 rfl) ?_
      have k_34 := (g_X8_rarest l D cI cB cQ H.size h sl zs ln ir tk tb tr fz na su le fu ap pp tc nm k x_4 sf v0 hsi (by omega) (by omega))
      refine wc_i (WC := [(h, .inr (7, [.ref sl, .int na, .ref zs, .ref ln, .ref ir, .ref tk, .int su, .int le, .ref tb, .int fu, .int ap, .int pp, .ref tr, .int tc, .ref fz, .int nm])), (sl, .inl (cI, 1653, .inl sf))]) (WR := []) (va_runV (As := [.int k, .int x_4]) (rest := []) ⟨hx, hb, hml, hown, hts⟩ k_34 (cwV 2 hts gX8_goesTo_X8_rarest rfl rfl rfl (by decide +kernel) ⟨Nat.le_of_ble_eq_true rfl, Nat.le_of_ble_eq_true rfl⟩) (wp_V hP hK hD hN [0, 1] (by decide) rfl (ci := 7) rfl rfl) rfl rfl hl.1 rfl (lv_room (Nat.le_of_ble_eq_true rfl)) dX8_goesTo_167 ⟨Nat.le_of_ble_eq_true rfl, Nat.le_of_ble_eq_true rfl⟩) hP hD hS hA [0, 1] [] rfl rfl (by decide) (by decide) (fun r_34 u_34 H locs hw_34 hP hD hS => ?_)
      clear k_34
      have hP : va_P D kl [(h, .inr (7, [.ref sl, .int na, .ref zs, .ref ln, .ref ir, .ref tk, .int su, .int le, .ref tb, .int fu, .int ap, .int pp, .ref tr, .int tc, .ref fz, .int nm])), (sl, .inl (cI, 1653, .inl sf))] H := hP
      have hD : va_D A [(h, .inr (7, [.ref sl, .int na, .ref zs, .ref ln, .ref ir, .ref tk, .int su, .int le, .ref tb, .int fu, .int ap, .int pp, .ref tr, .int tc, .ref fz, .int nm])), (sl, .inl (cI, 1653, .inl sf))] := hD
      have c34_0 := hw_34
      have c34_0 : 0 ≤ r_34.toInt ∧ r_34.toInt ≤ 7 := c34_0
      exact wr_i (v := r_34) hx hb hr hlocks hS () (by exact (by omega)) (hP.sub [0, 1] rfl) (hD.sub [0, 1] (by decide) rfl) dX8_goesTo_170
set_option maxHeartbeats 4000000 in
set_option maxRecDepth 100000 in
theorem g_X8_walks (l : Launch) (D : va_G) (cI cB cQ : ClassId) (sz : Nat) (h : Nat) (sl : Nat) (zs : Nat) (ln : Nat) (ir : Nat) (tk : Nat) (tb : Nat) (tr : Nat) (fz : Nat) (na : Int32) (su : Int32) (le : Int32) (fu : Int32) (ap : Int32) (pp : Int32) (tc : Int32) (nm : Int32) (k : Int32) (v : Int32) (sf : Nat → Int32) (v0 : Int) (hsi : SI sf v0) (h_k : 0 ≤ k.toInt ∧ k.toInt ≤ 28) (h_v : 0 ≤ v.toInt ∧ v.toInt ≤ 2) : mv l yX8_walks wsX8_walks ({ frames := 3, cells := 0, slots := 0, locals := 73 }) D cI cB cQ [.ref h, .int k, .int v] sz [(h, .inr (7, [.ref sl, .int na, .ref zs, .ref ln, .ref ir, .ref tk, .int su, .int le, .ref tb, .int fu, .int ap, .int pp, .ref tr, .int tc, .ref fz, .int nm])), (sl, .inl (cI, 1653, .inl sf))] (fun (u : (Nat → Int32)) => (SI u v0)) (fun u => [(h, .inr (7, [.ref sl, .int na, .ref zs, .ref ln, .ref ir, .ref tk, .int su, .int le, .ref tb, .int fu, .int ap, .int pp, .ref tr, .int tc, .ref fz, .int nm])), (sl, .inl (cI, 1653, .inl u))]) 0 0 := by
  refine wm_v (cc := cX8_walks) (maxL := 7) (ret := none) (by decide) rfl (Nat.le_of_ble_eq_true rfl) ?_
  intro p e s m below meth c A ls hx hb hr hml hown hts hlocks hin hP hK hD hN hA hl hS
  have hown : s.vm.findClass RX8 = some m.cls := hown
  have hl : lv_has ls 7 [(0, .ref h), (1, .int k), (2, .int v)] := hl
  change W p l e ({ frames := 3, cells := 0, slots := 0, locals := 73 }) s m ([.ref h, .int k, .int v] : List Value).toArray below meth c s.heap [] 0 0 (MQ below (va_Qv (fun (u : (Nat → Int32)) => (SI u v0)) (fun u t => wb D A ((fun u => [(h, .inr (7, [.ref sl, .int na, .ref zs, .ref ln, .ref ir, .ref tk, .int su, .int le, .ref tb, .int fu, .int ap, .int pp, .ref tr, .int tc, .ref fz, .int nm])), (sl, .inl (cI, 1653, .inl u))]) u) t) A) ([.ref h, .int k, .int v] : List Value).toArray s 0 0 A) (F0 m 0 ls [])
  refine lv_aload_n hx hb dX8_walks_0 rfl (lv_at hl 0 rfl) ?_
  refine va_get (D := D) (ci := 7) (v := .ref sl) (C := RX8) (T := TX8) (N := 16) hx hb hts (fun _ h => List.mem_cons_of_mem _ (List.mem_append_right _ h)) hown hK hP 0 rfl rfl 0 (by decide) (hts (.fieldLink RX8 7 "WinterWalkModel" "slot" "[I") (List.mem_of_getElem? (i := 1) rfl)) (fun _ h9 => h9) rfl dX8_walks_1 ?_
  refine lv_iload_n hx hb dX8_walks_4 rfl (lv_at hl 1 rfl) ?_
  refine lv_bipush (v := 57) hx hb dX8_walks_5 (by decide) ?_
  refine lv_imul hx hb dX8_walks_7 ?_
  refine lv_topi (fun x_1 ex_1 => ?_)
  have e_1 : x_1.toInt = k.toInt * 57 := by rw [ex_1]; exact zi_mul (rfl) (by decide) (by omega) (by omega)
  clear ex_1
  refine lv_bipush (v := 48) hx hb dX8_walks_8 (by decide) ?_
  refine lv_iadd hx hb dX8_walks_10 ?_
  refine lv_topi (fun x_2 ex_2 => ?_)
  have e_2 : x_2.toInt = x_1.toInt + 48 := by rw [ex_2]; exact zi_add (rfl) (by decide) (by omega) (by omega)
  clear ex_2
  refine lv_iload_n hx hb dX8_walks_11 rfl (lv_at hl 2 rfl) ?_
  refine lv_iadd hx hb dX8_walks_12 ?_
  refine lv_topi (fun x_3 ex_3 => ?_)
  have e_3 : x_3.toInt = x_2.toInt + v.toInt := by rw [ex_3]; exact zi_add (rfl) (rfl) (by omega) (by omega)
  clear ex_3
  refine va_iald hx hb hK hP 1 0 rfl rfl (zi_in (by omega) (by omega)) dX8_walks_13 ?_
  refine lv_topi (fun x_4 ex_4 => ?_)
  have f_4 : 0 ≤ x_4.toInt ∧ x_4.toInt ≤ 7 := by rw [ex_4]; exact si_a hsi (s := k.toInt) (k := v.toInt) (by omega) (by omega) (by omega)
  clear ex_4
  refine lv_istore_n (lv' := [(3, .int x_4), (0, .ref h), (1, .int k), (2, .int v)]) hx hb dX8_walks_14 rfl hl (by decide) rfl (fun ls hl => ?_)
  refine lv_aload_n hx hb dX8_walks_15 rfl (lv_at hl 1 rfl) ?_
  refine lv_iload_n hx hb dX8_walks_16 rfl (lv_at hl 2 rfl) ?_
  refine lv_iload_n hx hb dX8_walks_17 rfl (lv_at hl 3 rfl) ?_
  have k_5 := (g_X8_goesTo l D cI cB cQ s.heap.size h sl zs ln ir tk tb tr fz na su le fu ap pp tc nm k v sf v0 hsi (by omega) (by omega))
  refine wc_i (WC := [(h, .inr (7, [.ref sl, .int na, .ref zs, .ref ln, .ref ir, .ref tk, .int su, .int le, .ref tb, .int fu, .int ap, .int pp, .ref tr, .int tc, .ref fz, .int nm])), (sl, .inl (cI, 1653, .inl sf))]) (WR := []) (va_runV (As := [.int k, .int v]) (rest := []) ⟨hx, hb, hml, hown, hts⟩ k_5 (cwV 2 hts gX8_walks_X8_goesTo rfl rfl rfl (by decide +kernel) ⟨Nat.le_of_ble_eq_true rfl, Nat.le_of_ble_eq_true rfl⟩) (wp_V hP hK hD hN [0, 1] (by decide) rfl (ci := 7) rfl rfl) rfl rfl hl.1 rfl (lv_room (Nat.le_of_ble_eq_true rfl)) dX8_walks_18 ⟨Nat.le_of_ble_eq_true rfl, Nat.le_of_ble_eq_true rfl⟩) hP hD hS hA [0, 1] [] rfl rfl (by decide) (by decide) (fun r_5 u_5 H locs hw_5 hP hD hS => ?_)
  clear k_5
  have hP : va_P D kl [(h, .inr (7, [.ref sl, .int na, .ref zs, .ref ln, .ref ir, .ref tk, .int su, .int le, .ref tb, .int fu, .int ap, .int pp, .ref tr, .int tc, .ref fz, .int nm])), (sl, .inl (cI, 1653, .inl sf))] H := hP
  have hD : va_D A [(h, .inr (7, [.ref sl, .int na, .ref zs, .ref ln, .ref ir, .ref tk, .int su, .int le, .ref tb, .int fu, .int ap, .int pp, .ref tr, .int tc, .ref fz, .int nm])), (sl, .inl (cI, 1653, .inl sf))] := hD
  have c5_0 := hw_5
  have c5_0 : 0 ≤ r_5.toInt ∧ r_5.toInt ≤ 7 := c5_0
  refine lv_istore (lv' := [(4, .int r_5), (3, .int x_4), (0, .ref h), (1, .int k), (2, .int v)]) hx hb dX8_walks_21 hl (by decide) rfl (fun ls hl => ?_)
  refine lv_aload_n hx hb dX8_walks_23 rfl (lv_at hl 2 rfl) ?_
  refine va_get (D := D) (ci := 7) (v := .ref sl) (C := RX8) (T := TX8) (N := 16) hx hb hts (fun _ h => List.mem_cons_of_mem _ (List.mem_append_right _ h)) hown hK hP 0 rfl rfl 0 (by decide) (hts (.fieldLink RX8 7 "WinterWalkModel" "slot" "[I") (List.mem_of_getElem? (i := 1) rfl)) (fun _ h9 => h9) rfl dX8_walks_24 ?_
  refine lv_iload_n hx hb dX8_walks_27 rfl (lv_at hl 3 rfl) ?_
  refine lv_bipush (v := 57) hx hb dX8_walks_28 (by decide) ?_
  refine lv_imul hx hb dX8_walks_30 ?_
  refine lv_topi (fun x_6 ex_6 => ?_)
  have e_6 : x_6.toInt = k.toInt * 57 := by rw [ex_6]; exact zi_mul (rfl) (by decide) (by omega) (by omega)
  clear ex_6
  refine lv_bipush (v := 51) hx hb dX8_walks_31 (by decide) ?_
  refine lv_iadd hx hb dX8_walks_33 ?_
  refine lv_topi (fun x_7 ex_7 => ?_)
  have e_7 : x_7.toInt = x_6.toInt + 51 := by rw [ex_7]; exact zi_add (rfl) (by decide) (by omega) (by omega)
  clear ex_7
  refine lv_iload_n hx hb dX8_walks_34 rfl (lv_at hl 4 rfl) ?_
  refine lv_iadd hx hb dX8_walks_35 ?_
  refine lv_topi (fun x_8 ex_8 => ?_)
  have e_8 : x_8.toInt = x_7.toInt + v.toInt := by rw [ex_8]; exact zi_add (rfl) (rfl) (by omega) (by omega)
  clear ex_8
  refine lv_iload_n hx hb dX8_walks_36 rfl (lv_at hl 1 rfl) ?_
  refine va_iast hx hb hK hP hD hS 1 0 rfl rfl (zi_in (by omega) (by omega)) dX8_walks_37 (fun H locs hP hD hS => ?_)
  have hP : va_P D kl [(h, .inr (7, [.ref sl, .int na, .ref zs, .ref ln, .ref ir, .ref tk, .int su, .int le, .ref tb, .int fu, .int ap, .int pp, .ref tr, .int tc, .ref fz, .int nm])), (sl, .inl (cI, 1653, .inl (upd sf (x_8 : Int32).toNatClampNeg x_4)))] H := hP
  have hD : va_D A [(h, .inr (7, [.ref sl, .int na, .ref zs, .ref ln, .ref ir, .ref tk, .int su, .int le, .ref tb, .int fu, .int ap, .int pp, .ref tr, .int tc, .ref fz, .int nm])), (sl, .inl (cI, 1653, .inl (upd sf (x_8 : Int32).toNatClampNeg x_4)))] := hD
  have ha_9 : SI (upd sf (x_8 : Int32).toNatClampNeg x_4) v0 := si_up hsi (by omega) (fun s0 a0 b0 e0 => by omega) (fun s0 a0 b0 e0 => by omega) (fun s0 k0 a0 b0 c0 d0 e0 => by omega) (by omega)
  refine lv_aload_n hx hb dX8_walks_38 rfl (lv_at hl 2 rfl) ?_
  refine va_get (D := D) (ci := 7) (v := .ref sl) (C := RX8) (T := TX8) (N := 16) hx hb hts (fun _ h => List.mem_cons_of_mem _ (List.mem_append_right _ h)) hown hK hP 0 rfl rfl 0 (by decide) (hts (.fieldLink RX8 7 "WinterWalkModel" "slot" "[I") (List.mem_of_getElem? (i := 1) rfl)) (fun _ h9 => h9) rfl dX8_walks_39 ?_
  refine lv_iload_n hx hb dX8_walks_42 rfl (lv_at hl 3 rfl) ?_
  refine lv_bipush (v := 57) hx hb dX8_walks_43 (by decide) ?_
  refine lv_imul hx hb dX8_walks_45 ?_
  refine lv_topi (fun x_10 ex_10 => ?_)
  have e_10 : x_10.toInt = k.toInt * 57 := by rw [ex_10]; exact zi_mul (rfl) (by decide) (by omega) (by omega)
  clear ex_10
  refine lv_bipush (v := 48) hx hb dX8_walks_46 (by decide) ?_
  refine lv_iadd hx hb dX8_walks_48 ?_
  refine lv_topi (fun x_11 ex_11 => ?_)
  have e_11 : x_11.toInt = x_10.toInt + 48 := by rw [ex_11]; exact zi_add (rfl) (by decide) (by omega) (by omega)
  clear ex_11
  refine lv_iload_n hx hb dX8_walks_49 rfl (lv_at hl 4 rfl) ?_
  refine lv_iadd hx hb dX8_walks_50 ?_
  refine lv_topi (fun x_12 ex_12 => ?_)
  have e_12 : x_12.toInt = x_11.toInt + v.toInt := by rw [ex_12]; exact zi_add (rfl) (rfl) (by omega) (by omega)
  clear ex_12
  refine lv_iload hx hb dX8_walks_51 (lv_at hl 0 rfl) ?_
  refine va_iast hx hb hK hP hD hS 1 0 rfl rfl (zi_in (by omega) (by omega)) dX8_walks_53 (fun H locs hP hD hS => ?_)
  have hP : va_P D kl [(h, .inr (7, [.ref sl, .int na, .ref zs, .ref ln, .ref ir, .ref tk, .int su, .int le, .ref tb, .int fu, .int ap, .int pp, .ref tr, .int tc, .ref fz, .int nm])), (sl, .inl (cI, 1653, .inl (upd (upd sf (x_8 : Int32).toNatClampNeg x_4) (x_12 : Int32).toNatClampNeg r_5)))] H := hP
  have hD : va_D A [(h, .inr (7, [.ref sl, .int na, .ref zs, .ref ln, .ref ir, .ref tk, .int su, .int le, .ref tb, .int fu, .int ap, .int pp, .ref tr, .int tc, .ref fz, .int nm])), (sl, .inl (cI, 1653, .inl (upd (upd sf (x_8 : Int32).toNatClampNeg x_4) (x_12 : Int32).toNatClampNeg r_5)))] := hD
  have ha_13 : SI (upd (upd sf (x_8 : Int32).toNatClampNeg x_4) (x_12 : Int32).toNatClampNeg r_5) v0 := si_up ha_9 (by omega) (fun s0 a0 b0 e0 => by omega) (fun s0 a0 b0 e0 => by omega) (fun s0 k0 a0 b0 c0 d0 e0 => by omega) (by omega)
  refine lv_aload_n hx hb dX8_walks_54 rfl (lv_at hl 2 rfl) ?_
  refine va_get (D := D) (ci := 7) (v := .ref sl) (C := RX8) (T := TX8) (N := 16) hx hb hts (fun _ h => List.mem_cons_of_mem _ (List.mem_append_right _ h)) hown hK hP 0 rfl rfl 0 (by decide) (hts (.fieldLink RX8 7 "WinterWalkModel" "slot" "[I") (List.mem_of_getElem? (i := 1) rfl)) (fun _ h9 => h9) rfl dX8_walks_55 ?_
  refine lv_iload_n hx hb dX8_walks_58 rfl (lv_at hl 3 rfl) ?_
  refine lv_bipush (v := 57) hx hb dX8_walks_59 (by decide) ?_
  refine lv_imul hx hb dX8_walks_61 ?_
  refine lv_topi (fun x_14 ex_14 => ?_)
  have e_14 : x_14.toInt = k.toInt * 57 := by rw [ex_14]; exact zi_mul (rfl) (by decide) (by omega) (by omega)
  clear ex_14
  refine lv_bipush (v := 40) hx hb dX8_walks_62 (by decide) ?_
  refine lv_iadd hx hb dX8_walks_64 ?_
  refine lv_topi (fun x_15 ex_15 => ?_)
  have e_15 : x_15.toInt = x_14.toInt + 40 := by rw [ex_15]; exact zi_add (rfl) (by decide) (by omega) (by omega)
  clear ex_15
  refine lv_iload hx hb dX8_walks_65 (lv_at hl 0 rfl) ?_
  refine lv_iadd hx hb dX8_walks_67 ?_
  refine lv_topi (fun x_16 ex_16 => ?_)
  have e_16 : x_16.toInt = x_15.toInt + r_5.toInt := by rw [ex_16]; exact zi_add (rfl) (rfl) (by omega) (by omega)
  clear ex_16
  refine lv_dup2_11 hx hb dX8_walks_68 rfl rfl ?_
  refine va_iald hx hb hK hP 1 0 rfl rfl (zi_in (by omega) (by omega)) dX8_walks_69 ?_
  refine lv_topi (fun x_17 ex_17 => ?_)
  clear ex_17
  refine lv_iconst (v := 1) hx hb dX8_walks_70 (by decide) ?_
  refine lv_iadd hx hb dX8_walks_71 ?_
  refine lv_topi (fun x_18 ex_18 => ?_)
  clear ex_18
  refine va_iast hx hb hK hP hD hS 1 0 rfl rfl (zi_in (by omega) (by omega)) dX8_walks_72 (fun H locs hP hD hS => ?_)
  have hP : va_P D kl [(h, .inr (7, [.ref sl, .int na, .ref zs, .ref ln, .ref ir, .ref tk, .int su, .int le, .ref tb, .int fu, .int ap, .int pp, .ref tr, .int tc, .ref fz, .int nm])), (sl, .inl (cI, 1653, .inl (upd (upd (upd sf (x_8 : Int32).toNatClampNeg x_4) (x_12 : Int32).toNatClampNeg r_5) (x_16 : Int32).toNatClampNeg x_18)))] H := hP
  have hD : va_D A [(h, .inr (7, [.ref sl, .int na, .ref zs, .ref ln, .ref ir, .ref tk, .int su, .int le, .ref tb, .int fu, .int ap, .int pp, .ref tr, .int tc, .ref fz, .int nm])), (sl, .inl (cI, 1653, .inl (upd (upd (upd sf (x_8 : Int32).toNatClampNeg x_4) (x_12 : Int32).toNatClampNeg r_5) (x_16 : Int32).toNatClampNeg x_18)))] := hD
  have ha_19 : SI (upd (upd (upd sf (x_8 : Int32).toNatClampNeg x_4) (x_12 : Int32).toNatClampNeg r_5) (x_16 : Int32).toNatClampNeg x_18) v0 := si_up ha_13 (by omega) (fun s0 a0 b0 e0 => by omega) (fun s0 a0 b0 e0 => by omega) (fun s0 k0 a0 b0 c0 d0 e0 => by omega) (by omega)
  refine lv_aload_n hx hb dX8_walks_73 rfl (lv_at hl 2 rfl) ?_
  refine va_get (D := D) (ci := 7) (v := .ref sl) (C := RX8) (T := TX8) (N := 16) hx hb hts (fun _ h => List.mem_cons_of_mem _ (List.mem_append_right _ h)) hown hK hP 0 rfl rfl 0 (by decide) (hts (.fieldLink RX8 7 "WinterWalkModel" "slot" "[I") (List.mem_of_getElem? (i := 1) rfl)) (fun _ h9 => h9) rfl dX8_walks_74 ?_
  refine lv_iload_n hx hb dX8_walks_77 rfl (lv_at hl 3 rfl) ?_
  refine lv_bipush (v := 57) hx hb dX8_walks_78 (by decide) ?_
  refine lv_imul hx hb dX8_walks_80 ?_
  refine lv_topi (fun x_20 ex_20 => ?_)
  have e_20 : x_20.toInt = k.toInt * 57 := by rw [ex_20]; exact zi_mul (rfl) (by decide) (by omega) (by omega)
  clear ex_20
  refine lv_bipush (v := 32) hx hb dX8_walks_81 (by decide) ?_
  refine lv_iadd hx hb dX8_walks_83 ?_
  refine lv_topi (fun x_21 ex_21 => ?_)
  have e_21 : x_21.toInt = x_20.toInt + 32 := by rw [ex_21]; exact zi_add (rfl) (by decide) (by omega) (by omega)
  clear ex_21
  refine lv_iload hx hb dX8_walks_84 (lv_at hl 0 rfl) ?_
  refine lv_iadd hx hb dX8_walks_86 ?_
  refine lv_topi (fun x_22 ex_22 => ?_)
  have e_22 : x_22.toInt = x_21.toInt + r_5.toInt := by rw [ex_22]; exact zi_add (rfl) (rfl) (by omega) (by omega)
  clear ex_22
  refine lv_aload_n hx hb dX8_walks_87 rfl (lv_at hl 2 rfl) ?_
  refine va_get (D := D) (ci := 7) (v := .ref sl) (C := RX8) (T := TX8) (N := 16) hx hb hts (fun _ h => List.mem_cons_of_mem _ (List.mem_append_right _ h)) hown hK hP 0 rfl rfl 0 (by decide) (hts (.fieldLink RX8 7 "WinterWalkModel" "slot" "[I") (List.mem_of_getElem? (i := 1) rfl)) (fun _ h9 => h9) rfl dX8_walks_88 ?_
  refine lv_iload_n hx hb dX8_walks_91 rfl (lv_at hl 3 rfl) ?_
  refine lv_bipush (v := 57) hx hb dX8_walks_92 (by decide) ?_
  refine lv_imul hx hb dX8_walks_94 ?_
  refine lv_topi (fun x_23 ex_23 => ?_)
  have e_23 : x_23.toInt = k.toInt * 57 := by rw [ex_23]; exact zi_mul (rfl) (by decide) (by omega) (by omega)
  clear ex_23
  refine lv_iconst (v := 0) hx hb dX8_walks_95 (by decide) ?_
  refine lv_iadd hx hb dX8_walks_96 ?_
  refine lv_topi (fun x_24 ex_24 => ?_)
  have e_24 : x_24.toInt = x_23.toInt + 0 := by rw [ex_24]; exact zi_add (rfl) (by decide) (by omega) (by omega)
  clear ex_24
  refine va_iald hx hb hK hP 1 0 rfl rfl (zi_in (by omega) (by omega)) dX8_walks_97 ?_
  refine lv_topi (fun x_25 ex_25 => ?_)
  clear ex_25
  refine va_iast hx hb hK hP hD hS 1 0 rfl rfl (zi_in (by omega) (by omega)) dX8_walks_98 (fun H locs hP hD hS => ?_)
  have hP : va_P D kl [(h, .inr (7, [.ref sl, .int na, .ref zs, .ref ln, .ref ir, .ref tk, .int su, .int le, .ref tb, .int fu, .int ap, .int pp, .ref tr, .int tc, .ref fz, .int nm])), (sl, .inl (cI, 1653, .inl (upd (upd (upd (upd sf (x_8 : Int32).toNatClampNeg x_4) (x_12 : Int32).toNatClampNeg r_5) (x_16 : Int32).toNatClampNeg x_18) (x_22 : Int32).toNatClampNeg x_25)))] H := hP
  have hD : va_D A [(h, .inr (7, [.ref sl, .int na, .ref zs, .ref ln, .ref ir, .ref tk, .int su, .int le, .ref tb, .int fu, .int ap, .int pp, .ref tr, .int tc, .ref fz, .int nm])), (sl, .inl (cI, 1653, .inl (upd (upd (upd (upd sf (x_8 : Int32).toNatClampNeg x_4) (x_12 : Int32).toNatClampNeg r_5) (x_16 : Int32).toNatClampNeg x_18) (x_22 : Int32).toNatClampNeg x_25)))] := hD
  have ha_26 : SI (upd (upd (upd (upd sf (x_8 : Int32).toNatClampNeg x_4) (x_12 : Int32).toNatClampNeg r_5) (x_16 : Int32).toNatClampNeg x_18) (x_22 : Int32).toNatClampNeg x_25) v0 := si_up ha_19 (by omega) (fun s0 a0 b0 e0 => by omega) (fun s0 a0 b0 e0 => by omega) (fun s0 k0 a0 b0 c0 d0 e0 => by omega) (by omega)
  refine lv_iconst (v := 0) hx hb dX8_walks_99 (by decide) ?_
  refine lv_istore (lv' := [(5, .int 0), (4, .int r_5), (3, .int x_4), (0, .ref h), (1, .int k), (2, .int v)]) hx hb dX8_walks_100 hl (by decide) rfl (fun ls hl => ?_)
  have hL102 : ∀ (nf : Nat) (t5_c102 : Int32) (g0_c102 : Nat → Int32) (H : Heap) (locs : List Loc) (ls : Array Slot), (0 ≤ t5_c102.toInt ∧ t5_c102.toInt ≤ 8) → (SI g0_c102 v0) → (8 - t5_c102.toInt).toNat < nf → va_P D kl [(h, .inr (7, [.ref sl, .int na, .ref zs, .ref ln, .ref ir, .ref tk, .int su, .int le, .ref tb, .int fu, .int ap, .int pp, .ref tr, .int tc, .ref fz, .int nm])), (sl, .inl (cI, 1653, .inl g0_c102))] H → va_D A [(h, .inr (7, [.ref sl, .int na, .ref zs, .ref ln, .ref ir, .ref tk, .int su, .int le, .ref tb, .int fu, .int ap, .int pp, .ref tr, .int tc, .ref fz, .int nm])), (sl, .inl (cI, 1653, .inl g0_c102))] → va_S A s.heap H locs → lv_has ls 7 [(5, .int t5_c102), (4, .int r_5), (3, .int x_4), (0, .ref h), (1, .int k), (2, .int v)] → W p l e ({ frames := 3, cells := 0, slots := 0, locals := 73 }) s m ([.ref h, .int k, .int v] : List Value).toArray below meth c H locs 0 0 (MQ below (va_Qv (fun (u : (Nat → Int32)) => (SI u v0)) (fun u t => wb D A ((fun u => [(h, .inr (7, [.ref sl, .int na, .ref zs, .ref ln, .ref ir, .ref tk, .int su, .int le, .ref tb, .int fu, .int ap, .int pp, .ref tr, .int tc, .ref fz, .int nm])), (sl, .inl (cI, 1653, .inl u))]) u) t) A) ([.ref h, .int k, .int v] : List Value).toArray s 0 0 A) (F0 m 102 ls []) := by
    intro nf
    induction nf with
    | zero =>
      intro t5_c102 g0_c102 H locs ls i_t5_c102 ha_g0_c102 hm
      exact absurd hm (Nat.not_lt_zero _)
    | succ nf ih102 =>
      intro t5_c102 g0_c102 H locs ls i_t5_c102 ha_g0_c102 hm102 hP hD hS hl
      refine lv_iload hx hb dX8_walks_102 (lv_at hl 0 rfl) ?_
      refine lv_bipush (v := 8) hx hb dX8_walks_104 (by decide) ?_
      refine lv_icmp_ge (tgt := 203) hx hb dX8_walks_106 (by decide) (fun c_27 => ?_) (fun c_27 => ?_)
      · have f_27 : 8 ≤ t5_c102.toInt := zi_le c_27
        refine lv_aload_n hx hb dX8_walks_203 rfl (lv_at hl 3 rfl) ?_
        refine va_get (D := D) (ci := 7) (v := .ref sl) (C := RX8) (T := TX8) (N := 16) hx hb hts (fun _ h => List.mem_cons_of_mem _ (List.mem_append_right _ h)) hown hK hP 0 rfl rfl 0 (by decide) (hts (.fieldLink RX8 7 "WinterWalkModel" "slot" "[I") (List.mem_of_getElem? (i := 1) rfl)) (fun _ h9 => h9) rfl dX8_walks_204 ?_
        refine lv_iload_n hx hb dX8_walks_207 rfl (lv_at hl 4 rfl) ?_
        refine lv_bipush (v := 57) hx hb dX8_walks_208 (by decide) ?_
        refine lv_imul hx hb dX8_walks_210 ?_
        refine lv_topi (fun x_28 ex_28 => ?_)
        have e_28 : x_28.toInt = k.toInt * 57 := by rw [ex_28]; exact zi_mul (rfl) (by decide) (by omega) (by omega)
        clear ex_28
        refine lv_bipush (v := 55) hx hb dX8_walks_211 (by decide) ?_
        refine lv_iadd hx hb dX8_walks_213 ?_
        refine lv_topi (fun x_29 ex_29 => ?_)
        have e_29 : x_29.toInt = x_28.toInt + 55 := by rw [ex_29]; exact zi_add (rfl) (by decide) (by omega) (by omega)
        clear ex_29
        refine lv_dup2_11 hx hb dX8_walks_214 rfl rfl ?_
        refine va_iald hx hb hK hP 1 0 rfl rfl (zi_in (by omega) (by omega)) dX8_walks_215 ?_
        refine lv_topi (fun x_30 ex_30 => ?_)
        clear ex_30
        refine lv_aload_n hx hb dX8_walks_216 rfl (lv_at hl 3 rfl) ?_
        refine va_get (D := D) (ci := 7) (v := .ref sl) (C := RX8) (T := TX8) (N := 16) hx hb hts (fun _ h => List.mem_cons_of_mem _ (List.mem_append_right _ h)) hown hK hP 0 rfl rfl 0 (by decide) (hts (.fieldLink RX8 7 "WinterWalkModel" "slot" "[I") (List.mem_of_getElem? (i := 1) rfl)) (fun _ h9 => h9) rfl dX8_walks_217 ?_
        refine lv_iload_n hx hb dX8_walks_220 rfl (lv_at hl 4 rfl) ?_
        refine lv_bipush (v := 57) hx hb dX8_walks_221 (by decide) ?_
        refine lv_imul hx hb dX8_walks_223 ?_
        refine lv_topi (fun x_31 ex_31 => ?_)
        have e_31 : x_31.toInt = k.toInt * 57 := by rw [ex_31]; exact zi_mul (rfl) (by decide) (by omega) (by omega)
        clear ex_31
        refine lv_iconst (v := 4) hx hb dX8_walks_224 (by decide) ?_
        refine lv_iadd hx hb dX8_walks_225 ?_
        refine lv_topi (fun x_32 ex_32 => ?_)
        have e_32 : x_32.toInt = x_31.toInt + 4 := by rw [ex_32]; exact zi_add (rfl) (by decide) (by omega) (by omega)
        clear ex_32
        refine lv_iload hx hb dX8_walks_226 (lv_at hl 1 rfl) ?_
        refine lv_iadd hx hb dX8_walks_228 ?_
        refine lv_topi (fun x_33 ex_33 => ?_)
        have e_33 : x_33.toInt = x_32.toInt + r_5.toInt := by rw [ex_33]; exact zi_add (rfl) (rfl) (by omega) (by omega)
        clear ex_33
        refine va_iald hx hb hK hP 1 0 rfl rfl (zi_in (by omega) (by omega)) dX8_walks_229 ?_
        refine lv_topi (fun x_34 ex_34 => ?_)
        clear ex_34
        refine lv_iadd hx hb dX8_walks_230 ?_
        refine lv_topi (fun x_35 ex_35 => ?_)
        clear ex_35
        refine va_iast hx hb hK hP hD hS 1 0 rfl rfl (zi_in (by omega) (by omega)) dX8_walks_231 (fun H locs hP hD hS => ?_)
        have hP : va_P D kl [(h, .inr (7, [.ref sl, .int na, .ref zs, .ref ln, .ref ir, .ref tk, .int su, .int le, .ref tb, .int fu, .int ap, .int pp, .ref tr, .int tc, .ref fz, .int nm])), (sl, .inl (cI, 1653, .inl (upd g0_c102 (x_29 : Int32).toNatClampNeg x_35)))] H := hP
        have hD : va_D A [(h, .inr (7, [.ref sl, .int na, .ref zs, .ref ln, .ref ir, .ref tk, .int su, .int le, .ref tb, .int fu, .int ap, .int pp, .ref tr, .int tc, .ref fz, .int nm])), (sl, .inl (cI, 1653, .inl (upd g0_c102 (x_29 : Int32).toNatClampNeg x_35)))] := hD
        have ha_36 : SI (upd g0_c102 (x_29 : Int32).toNatClampNeg x_35) v0 := si_up ha_g0_c102 (by omega) (fun s0 a0 b0 e0 => by omega) (fun s0 a0 b0 e0 => by omega) (fun s0 k0 a0 b0 c0 d0 e0 => by omega) (by omega)
        refine lv_aload_n hx hb dX8_walks_232 rfl (lv_at hl 3 rfl) ?_
        refine va_get (D := D) (ci := 7) (v := .ref sl) (C := RX8) (T := TX8) (N := 16) hx hb hts (fun _ h => List.mem_cons_of_mem _ (List.mem_append_right _ h)) hown hK hP 0 rfl rfl 0 (by decide) (hts (.fieldLink RX8 7 "WinterWalkModel" "slot" "[I") (List.mem_of_getElem? (i := 1) rfl)) (fun _ h9 => h9) rfl dX8_walks_233 ?_
        refine lv_iload_n hx hb dX8_walks_236 rfl (lv_at hl 4 rfl) ?_
        refine lv_bipush (v := 57) hx hb dX8_walks_237 (by decide) ?_
        refine lv_imul hx hb dX8_walks_239 ?_
        refine lv_topi (fun x_37 ex_37 => ?_)
        have e_37 : x_37.toInt = k.toInt * 57 := by rw [ex_37]; exact zi_mul (rfl) (by decide) (by omega) (by omega)
        clear ex_37
        refine lv_bipush (v := 56) hx hb dX8_walks_240 (by decide) ?_
        refine lv_iadd hx hb dX8_walks_242 ?_
        refine lv_topi (fun x_38 ex_38 => ?_)
        have e_38 : x_38.toInt = x_37.toInt + 56 := by rw [ex_38]; exact zi_add (rfl) (by decide) (by omega) (by omega)
        clear ex_38
        refine lv_dup2_11 hx hb dX8_walks_243 rfl rfl ?_
        refine va_iald hx hb hK hP 1 0 rfl rfl (zi_in (by omega) (by omega)) dX8_walks_244 ?_
        refine lv_topi (fun x_39 ex_39 => ?_)
        clear ex_39
        refine lv_aload_n hx hb dX8_walks_245 rfl (lv_at hl 3 rfl) ?_
        refine va_get (D := D) (ci := 7) (v := .ref sl) (C := RX8) (T := TX8) (N := 16) hx hb hts (fun _ h => List.mem_cons_of_mem _ (List.mem_append_right _ h)) hown hK hP 0 rfl rfl 0 (by decide) (hts (.fieldLink RX8 7 "WinterWalkModel" "slot" "[I") (List.mem_of_getElem? (i := 1) rfl)) (fun _ h9 => h9) rfl dX8_walks_246 ?_
        refine lv_iload_n hx hb dX8_walks_249 rfl (lv_at hl 4 rfl) ?_
        refine lv_bipush (v := 57) hx hb dX8_walks_250 (by decide) ?_
        refine lv_imul hx hb dX8_walks_252 ?_
        refine lv_topi (fun x_40 ex_40 => ?_)
        have e_40 : x_40.toInt = k.toInt * 57 := by rw [ex_40]; exact zi_mul (rfl) (by decide) (by omega) (by omega)
        clear ex_40
        refine lv_bipush (v := 20) hx hb dX8_walks_253 (by decide) ?_
        refine lv_iadd hx hb dX8_walks_255 ?_
        refine lv_topi (fun x_41 ex_41 => ?_)
        have e_41 : x_41.toInt = x_40.toInt + 20 := by rw [ex_41]; exact zi_add (rfl) (by decide) (by omega) (by omega)
        clear ex_41
        refine lv_iload_n hx hb dX8_walks_256 rfl (lv_at hl 5 rfl) ?_
        refine lv_iadd hx hb dX8_walks_257 ?_
        refine lv_topi (fun x_42 ex_42 => ?_)
        have e_42 : x_42.toInt = x_41.toInt + v.toInt := by rw [ex_42]; exact zi_add (rfl) (rfl) (by omega) (by omega)
        clear ex_42
        refine va_iald hx hb hK hP 1 0 rfl rfl (zi_in (by omega) (by omega)) dX8_walks_258 ?_
        refine lv_topi (fun x_43 ex_43 => ?_)
        clear ex_43
        refine lv_iconst (v := 4) hx hb dX8_walks_259 (by decide) ?_
        refine lv_icmp_ge (tgt := 281) hx hb dX8_walks_260 (by decide) (fun c_44 => ?_) (fun c_44 => ?_)
        · have f_44 : 4 ≤ x_43.toInt := zi_le c_44
          refine lv_iconst (v := 0) hx hb dX8_walks_281 (by decide) ?_
          refine lv_iadd hx hb dX8_walks_282 ?_
          refine lv_topi (fun x_45 ex_45 => ?_)
          clear ex_45
          refine va_iast hx hb hK hP hD hS 1 0 rfl rfl (zi_in (by omega) (by omega)) dX8_walks_283 (fun H locs hP hD hS => ?_)
          have hP : va_P D kl [(h, .inr (7, [.ref sl, .int na, .ref zs, .ref ln, .ref ir, .ref tk, .int su, .int le, .ref tb, .int fu, .int ap, .int pp, .ref tr, .int tc, .ref fz, .int nm])), (sl, .inl (cI, 1653, .inl (upd (upd g0_c102 (x_29 : Int32).toNatClampNeg x_35) (x_38 : Int32).toNatClampNeg x_45)))] H := hP
          have hD : va_D A [(h, .inr (7, [.ref sl, .int na, .ref zs, .ref ln, .ref ir, .ref tk, .int su, .int le, .ref tb, .int fu, .int ap, .int pp, .ref tr, .int tc, .ref fz, .int nm])), (sl, .inl (cI, 1653, .inl (upd (upd g0_c102 (x_29 : Int32).toNatClampNeg x_35) (x_38 : Int32).toNatClampNeg x_45)))] := hD
          have ha_46 : SI (upd (upd g0_c102 (x_29 : Int32).toNatClampNeg x_35) (x_38 : Int32).toNatClampNeg x_45) v0 := si_up ha_36 (by omega) (fun s0 a0 b0 e0 => by omega) (fun s0 a0 b0 e0 => by omega) (fun s0 k0 a0 b0 c0 d0 e0 => by omega) (by omega)
          exact wr_v hx hb hr hlocks hS (upd (upd g0_c102 (x_29 : Int32).toNatClampNeg x_35) (x_38 : Int32).toNatClampNeg x_45) (by exact ha_46) (hP.sub [0, 1] rfl) (hD.sub [0, 1] (by decide) rfl) dX8_walks_284
        · have f_44 : ¬ 4 ≤ x_43.toInt := zi_nle c_44
          refine lv_aload_n hx hb dX8_walks_263 rfl (lv_at hl 3 rfl) ?_
          refine va_get (D := D) (ci := 7) (v := .ref sl) (C := RX8) (T := TX8) (N := 16) hx hb hts (fun _ h => List.mem_cons_of_mem _ (List.mem_append_right _ h)) hown hK hP 0 rfl rfl 0 (by decide) (hts (.fieldLink RX8 7 "WinterWalkModel" "slot" "[I") (List.mem_of_getElem? (i := 1) rfl)) (fun _ h9 => h9) rfl dX8_walks_264 ?_
          refine lv_iload_n hx hb dX8_walks_267 rfl (lv_at hl 4 rfl) ?_
          refine lv_bipush (v := 57) hx hb dX8_walks_268 (by decide) ?_
          refine lv_imul hx hb dX8_walks_270 ?_
          refine lv_topi (fun x_47 ex_47 => ?_)
          have e_47 : x_47.toInt = k.toInt * 57 := by rw [ex_47]; exact zi_mul (rfl) (by decide) (by omega) (by omega)
          clear ex_47
          refine lv_bipush (v := 23) hx hb dX8_walks_271 (by decide) ?_
          refine lv_iadd hx hb dX8_walks_273 ?_
          refine lv_topi (fun x_48 ex_48 => ?_)
          have e_48 : x_48.toInt = x_47.toInt + 23 := by rw [ex_48]; exact zi_add (rfl) (by decide) (by omega) (by omega)
          clear ex_48
          refine lv_iload hx hb dX8_walks_274 (lv_at hl 1 rfl) ?_
          refine lv_iadd hx hb dX8_walks_276 ?_
          refine lv_topi (fun x_49 ex_49 => ?_)
          have e_49 : x_49.toInt = x_48.toInt + r_5.toInt := by rw [ex_49]; exact zi_add (rfl) (rfl) (by omega) (by omega)
          clear ex_49
          refine va_iald hx hb hK hP 1 0 rfl rfl (zi_in (by omega) (by omega)) dX8_walks_277 ?_
          refine lv_topi (fun x_50 ex_50 => ?_)
          clear ex_50
          refine lv_goto (tgt := 282) hx hb dX8_walks_278 (by decide) ?_
          refine lv_iadd hx hb dX8_walks_282 ?_
          refine lv_topi (fun x_51 ex_51 => ?_)
          clear ex_51
          refine va_iast hx hb hK hP hD hS 1 0 rfl rfl (zi_in (by omega) (by omega)) dX8_walks_283 (fun H locs hP hD hS => ?_)
          have hP : va_P D kl [(h, .inr (7, [.ref sl, .int na, .ref zs, .ref ln, .ref ir, .ref tk, .int su, .int le, .ref tb, .int fu, .int ap, .int pp, .ref tr, .int tc, .ref fz, .int nm])), (sl, .inl (cI, 1653, .inl (upd (upd g0_c102 (x_29 : Int32).toNatClampNeg x_35) (x_38 : Int32).toNatClampNeg x_51)))] H := hP
          have hD : va_D A [(h, .inr (7, [.ref sl, .int na, .ref zs, .ref ln, .ref ir, .ref tk, .int su, .int le, .ref tb, .int fu, .int ap, .int pp, .ref tr, .int tc, .ref fz, .int nm])), (sl, .inl (cI, 1653, .inl (upd (upd g0_c102 (x_29 : Int32).toNatClampNeg x_35) (x_38 : Int32).toNatClampNeg x_51)))] := hD
          have ha_52 : SI (upd (upd g0_c102 (x_29 : Int32).toNatClampNeg x_35) (x_38 : Int32).toNatClampNeg x_51) v0 := si_up ha_36 (by omega) (fun s0 a0 b0 e0 => by omega) (fun s0 a0 b0 e0 => by omega) (fun s0 k0 a0 b0 c0 d0 e0 => by omega) (by omega)
          exact wr_v hx hb hr hlocks hS (upd (upd g0_c102 (x_29 : Int32).toNatClampNeg x_35) (x_38 : Int32).toNatClampNeg x_51) (by exact ha_52) (hP.sub [0, 1] rfl) (hD.sub [0, 1] (by decide) rfl) dX8_walks_284
      · have f_27 : ¬ 8 ≤ t5_c102.toInt := zi_nle c_27
        refine lv_aload_n hx hb dX8_walks_109 rfl (lv_at hl 3 rfl) ?_
        refine va_get (D := D) (ci := 7) (v := .ref sl) (C := RX8) (T := TX8) (N := 16) hx hb hts (fun _ h => List.mem_cons_of_mem _ (List.mem_append_right _ h)) hown hK hP 0 rfl rfl 0 (by decide) (hts (.fieldLink RX8 7 "WinterWalkModel" "slot" "[I") (List.mem_of_getElem? (i := 1) rfl)) (fun _ h9 => h9) rfl dX8_walks_110 ?_
        refine lv_iload_n hx hb dX8_walks_113 rfl (lv_at hl 4 rfl) ?_
        refine lv_bipush (v := 57) hx hb dX8_walks_114 (by decide) ?_
        refine lv_imul hx hb dX8_walks_116 ?_
        refine lv_topi (fun x_53 ex_53 => ?_)
        have e_53 : x_53.toInt = k.toInt * 57 := by rw [ex_53]; exact zi_mul (rfl) (by decide) (by omega) (by omega)
        clear ex_53
        refine lv_bipush (v := 12) hx hb dX8_walks_117 (by decide) ?_
        refine lv_iadd hx hb dX8_walks_119 ?_
        refine lv_topi (fun x_54 ex_54 => ?_)
        have e_54 : x_54.toInt = x_53.toInt + 12 := by rw [ex_54]; exact zi_add (rfl) (by decide) (by omega) (by omega)
        clear ex_54
        refine lv_iload hx hb dX8_walks_120 (lv_at hl 1 rfl) ?_
        refine lv_iadd hx hb dX8_walks_122 ?_
        refine lv_topi (fun x_55 ex_55 => ?_)
        have e_55 : x_55.toInt = x_54.toInt + r_5.toInt := by rw [ex_55]; exact zi_add (rfl) (rfl) (by omega) (by omega)
        clear ex_55
        refine va_iald hx hb hK hP 1 0 rfl rfl (zi_in (by omega) (by omega)) dX8_walks_123 ?_
        refine lv_topi (fun x_56 ex_56 => ?_)
        clear ex_56
        refine lv_iload hx hb dX8_walks_124 (lv_at hl 0 rfl) ?_
        have k_57 := (g_X8_has l D cI cB cQ H.size x_56 t5_c102)
        refine wc_i (WC := []) (WR := [(h, .inr (7, [.ref sl, .int na, .ref zs, .ref ln, .ref ir, .ref tk, .int su, .int le, .ref tb, .int fu, .int ap, .int pp, .ref tr, .int tc, .ref fz, .int nm])), (sl, .inl (cI, 1653, .inl g0_c102))]) (va_runS (As := [.int x_56, .int t5_c102]) (rest := []) ⟨hx, hb, hml, hown, hts⟩ k_57 (va_cwS 2 hts gX8_walks_X8_has rfl rfl rfl (by decide +kernel) ⟨Nat.le_of_ble_eq_true rfl, Nat.le_of_ble_eq_true rfl⟩) (wp_S hP hK hD hN [] (by decide) rfl) rfl rfl hl.1 rfl (lv_room (Nat.le_of_ble_eq_true rfl)) dX8_walks_126 ⟨Nat.le_of_ble_eq_true rfl, Nat.le_of_ble_eq_true rfl⟩) hP hD hS hA [] [0, 1] rfl rfl (by decide) (by decide) (fun r_57 u_57 H locs hw_57 hP hD hS => ?_)
        clear k_57
        have hP : va_P D kl [(h, .inr (7, [.ref sl, .int na, .ref zs, .ref ln, .ref ir, .ref tk, .int su, .int le, .ref tb, .int fu, .int ap, .int pp, .ref tr, .int tc, .ref fz, .int nm])), (sl, .inl (cI, 1653, .inl g0_c102))] H := hP
        have hD : va_D A [(h, .inr (7, [.ref sl, .int na, .ref zs, .ref ln, .ref ir, .ref tk, .int su, .int le, .ref tb, .int fu, .int ap, .int pp, .ref tr, .int tc, .ref fz, .int nm])), (sl, .inl (cI, 1653, .inl g0_c102))] := hD
        have c57_0 := hw_57
        rcases c57_0 with e_57 | e_57
        · subst e_57
          refine lv_if_eq (tgt := 155) hx hb dX8_walks_129 (by decide) (fun c9 => absurd c9 (by decide)) (fun _ => ?_)
          refine lv_aload_n hx hb dX8_walks_132 rfl (lv_at hl 3 rfl) ?_
          refine va_get (D := D) (ci := 7) (v := .ref sl) (C := RX8) (T := TX8) (N := 16) hx hb hts (fun _ h => List.mem_cons_of_mem _ (List.mem_append_right _ h)) hown hK hP 0 rfl rfl 0 (by decide) (hts (.fieldLink RX8 7 "WinterWalkModel" "slot" "[I") (List.mem_of_getElem? (i := 1) rfl)) (fun _ h9 => h9) rfl dX8_walks_133 ?_
          refine lv_iload_n hx hb dX8_walks_136 rfl (lv_at hl 4 rfl) ?_
          refine lv_bipush (v := 57) hx hb dX8_walks_137 (by decide) ?_
          refine lv_imul hx hb dX8_walks_139 ?_
          refine lv_topi (fun x_58 ex_58 => ?_)
          have e_58 : x_58.toInt = k.toInt * 57 := by rw [ex_58]; exact zi_mul (rfl) (by decide) (by omega) (by omega)
          clear ex_58
          refine lv_bipush (v := 32) hx hb dX8_walks_140 (by decide) ?_
          refine lv_iadd hx hb dX8_walks_142 ?_
          refine lv_topi (fun x_59 ex_59 => ?_)
          have e_59 : x_59.toInt = x_58.toInt + 32 := by rw [ex_59]; exact zi_add (rfl) (by decide) (by omega) (by omega)
          clear ex_59
          refine lv_iload hx hb dX8_walks_143 (lv_at hl 0 rfl) ?_
          refine lv_iadd hx hb dX8_walks_145 ?_
          refine lv_topi (fun x_60 ex_60 => ?_)
          have e_60 : x_60.toInt = x_59.toInt + t5_c102.toInt := by rw [ex_60]; exact zi_add (rfl) (rfl) (by omega) (by omega)
          clear ex_60
          refine va_iald hx hb hK hP 1 0 rfl rfl (zi_in (by omega) (by omega)) dX8_walks_146 ?_
          refine lv_topi (fun x_61 ex_61 => ?_)
          clear ex_61
          refine lv_iconst (v := 1) hx hb dX8_walks_147 (by decide) ?_
          refine lv_icmp_ge (tgt := 155) hx hb dX8_walks_148 (by decide) (fun c_62 => ?_) (fun c_62 => ?_)
          · have f_62 : 1 ≤ x_61.toInt := zi_le c_62
            refine lv_iconst (v := 0) hx hb dX8_walks_155 (by decide) ?_
            refine lv_istore (lv' := [(6, .int 0), (5, .int t5_c102), (4, .int r_5), (3, .int x_4), (0, .ref h), (1, .int k), (2, .int v)]) hx hb dX8_walks_156 hl (by decide) rfl (fun ls hl => ?_)
            refine lv_aload_n hx hb dX8_walks_158 rfl (lv_at hl 4 rfl) ?_
            refine va_get (D := D) (ci := 7) (v := .ref sl) (C := RX8) (T := TX8) (N := 16) hx hb hts (fun _ h => List.mem_cons_of_mem _ (List.mem_append_right _ h)) hown hK hP 0 rfl rfl 0 (by decide) (hts (.fieldLink RX8 7 "WinterWalkModel" "slot" "[I") (List.mem_of_getElem? (i := 1) rfl)) (fun _ h9 => h9) rfl dX8_walks_159 ?_
            refine lv_iload_n hx hb dX8_walks_162 rfl (lv_at hl 5 rfl) ?_
            refine lv_bipush (v := 57) hx hb dX8_walks_163 (by decide) ?_
            refine lv_imul hx hb dX8_walks_165 ?_
            refine lv_topi (fun x_63 ex_63 => ?_)
            have e_63 : x_63.toInt = k.toInt * 57 := by rw [ex_63]; exact zi_mul (rfl) (by decide) (by omega) (by omega)
            clear ex_63
            refine lv_bipush (v := 32) hx hb dX8_walks_166 (by decide) ?_
            refine lv_iadd hx hb dX8_walks_168 ?_
            refine lv_topi (fun x_64 ex_64 => ?_)
            have e_64 : x_64.toInt = x_63.toInt + 32 := by rw [ex_64]; exact zi_add (rfl) (by decide) (by omega) (by omega)
            clear ex_64
            refine lv_iload hx hb dX8_walks_169 (lv_at hl 1 rfl) ?_
            refine lv_iadd hx hb dX8_walks_171 ?_
            refine lv_topi (fun x_65 ex_65 => ?_)
            have e_65 : x_65.toInt = x_64.toInt + t5_c102.toInt := by rw [ex_65]; exact zi_add (rfl) (rfl) (by omega) (by omega)
            clear ex_65
            refine lv_iload hx hb dX8_walks_172 (lv_at hl 0 rfl) ?_
            refine lv_if_eq (tgt := 181) hx hb dX8_walks_174 (by decide) (fun _ => ?_) (fun c9 => absurd (by decide) c9)
            refine lv_aload_n hx hb dX8_walks_181 rfl (lv_at hl 4 rfl) ?_
            refine va_get (D := D) (ci := 7) (v := .ref sl) (C := RX8) (T := TX8) (N := 16) hx hb hts (fun _ h => List.mem_cons_of_mem _ (List.mem_append_right _ h)) hown hK hP 0 rfl rfl 0 (by decide) (hts (.fieldLink RX8 7 "WinterWalkModel" "slot" "[I") (List.mem_of_getElem? (i := 1) rfl)) (fun _ h9 => h9) rfl dX8_walks_182 ?_
            refine lv_iload_n hx hb dX8_walks_185 rfl (lv_at hl 5 rfl) ?_
            refine lv_bipush (v := 57) hx hb dX8_walks_186 (by decide) ?_
            refine lv_imul hx hb dX8_walks_188 ?_
            refine lv_topi (fun x_66 ex_66 => ?_)
            have e_66 : x_66.toInt = k.toInt * 57 := by rw [ex_66]; exact zi_mul (rfl) (by decide) (by omega) (by omega)
            clear ex_66
            refine lv_bipush (v := 32) hx hb dX8_walks_189 (by decide) ?_
            refine lv_iadd hx hb dX8_walks_191 ?_
            refine lv_topi (fun x_67 ex_67 => ?_)
            have e_67 : x_67.toInt = x_66.toInt + 32 := by rw [ex_67]; exact zi_add (rfl) (by decide) (by omega) (by omega)
            clear ex_67
            refine lv_iload hx hb dX8_walks_192 (lv_at hl 1 rfl) ?_
            refine lv_iadd hx hb dX8_walks_194 ?_
            refine lv_topi (fun x_68 ex_68 => ?_)
            have e_68 : x_68.toInt = x_67.toInt + t5_c102.toInt := by rw [ex_68]; exact zi_add (rfl) (rfl) (by omega) (by omega)
            clear ex_68
            refine va_iald hx hb hK hP 1 0 rfl rfl (zi_in (by omega) (by omega)) dX8_walks_195 ?_
            refine lv_topi (fun x_69 ex_69 => ?_)
            clear ex_69
            refine va_iast hx hb hK hP hD hS 1 0 rfl rfl (zi_in (by omega) (by omega)) dX8_walks_196 (fun H locs hP hD hS => ?_)
            have hP : va_P D kl [(h, .inr (7, [.ref sl, .int na, .ref zs, .ref ln, .ref ir, .ref tk, .int su, .int le, .ref tb, .int fu, .int ap, .int pp, .ref tr, .int tc, .ref fz, .int nm])), (sl, .inl (cI, 1653, .inl (upd g0_c102 (x_65 : Int32).toNatClampNeg x_69)))] H := hP
            have hD : va_D A [(h, .inr (7, [.ref sl, .int na, .ref zs, .ref ln, .ref ir, .ref tk, .int su, .int le, .ref tb, .int fu, .int ap, .int pp, .ref tr, .int tc, .ref fz, .int nm])), (sl, .inl (cI, 1653, .inl (upd g0_c102 (x_65 : Int32).toNatClampNeg x_69)))] := hD
            have ha_70 : SI (upd g0_c102 (x_65 : Int32).toNatClampNeg x_69) v0 := si_up ha_g0_c102 (by omega) (fun s0 a0 b0 e0 => by omega) (fun s0 a0 b0 e0 => by omega) (fun s0 k0 a0 b0 c0 d0 e0 => by omega) (by omega)
            obtain ⟨x_71, ex_71⟩ : ∃ y : Int32, y = t5_c102 + Int32.ofInt 1 := ⟨_, rfl⟩
            refine lv_iinc (v := x_71) (lv' := [(5, .int x_71), (6, .int 0), (4, .int r_5), (3, .int x_4), (0, .ref h), (1, .int k), (2, .int v)]) hx hb dX8_walks_197 hl (k := 1) rfl ex_71.symm (by decide) rfl (fun ls hl => ?_)
            have ex_71 : x_71 = t5_c102 + 1 := ex_71
            have e_71 : x_71.toInt = t5_c102.toInt + 1 := by rw [ex_71]; exact zi_add (rfl) (by decide) (by omega) (by omega)
            clear ex_71
            refine lv_goto (tgt := 102) hx hb dX8_walks_200 (by decide) ?_
            exact ih102 x_71 (upd g0_c102 (x_65 : Int32).toNatClampNeg x_69) _ _ _ (show 0 ≤ x_71.toInt ∧ x_71.toInt ≤ 8 from by omega) ha_70 (by omega) (hP.sub [0, 1] rfl) (hD.sub [0, 1] (by decide) rfl) hS (lv_sub hl [0, 2, 3, 4, 5, 6] rfl)
          · have f_62 : ¬ 1 ≤ x_61.toInt := zi_nle c_62
            refine lv_iconst (v := 1) hx hb dX8_walks_151 (by decide) ?_
            refine lv_goto (tgt := 156) hx hb dX8_walks_152 (by decide) ?_
            refine lv_istore (lv' := [(6, .int 1), (5, .int t5_c102), (4, .int r_5), (3, .int x_4), (0, .ref h), (1, .int k), (2, .int v)]) hx hb dX8_walks_156 hl (by decide) rfl (fun ls hl => ?_)
            refine lv_aload_n hx hb dX8_walks_158 rfl (lv_at hl 4 rfl) ?_
            refine va_get (D := D) (ci := 7) (v := .ref sl) (C := RX8) (T := TX8) (N := 16) hx hb hts (fun _ h => List.mem_cons_of_mem _ (List.mem_append_right _ h)) hown hK hP 0 rfl rfl 0 (by decide) (hts (.fieldLink RX8 7 "WinterWalkModel" "slot" "[I") (List.mem_of_getElem? (i := 1) rfl)) (fun _ h9 => h9) rfl dX8_walks_159 ?_
            refine lv_iload_n hx hb dX8_walks_162 rfl (lv_at hl 5 rfl) ?_
            refine lv_bipush (v := 57) hx hb dX8_walks_163 (by decide) ?_
            refine lv_imul hx hb dX8_walks_165 ?_
            refine lv_topi (fun x_72 ex_72 => ?_)
            have e_72 : x_72.toInt = k.toInt * 57 := by rw [ex_72]; exact zi_mul (rfl) (by decide) (by omega) (by omega)
            clear ex_72
            refine lv_bipush (v := 32) hx hb dX8_walks_166 (by decide) ?_
            refine lv_iadd hx hb dX8_walks_168 ?_
            refine lv_topi (fun x_73 ex_73 => ?_)
            have e_73 : x_73.toInt = x_72.toInt + 32 := by rw [ex_73]; exact zi_add (rfl) (by decide) (by omega) (by omega)
            clear ex_73
            refine lv_iload hx hb dX8_walks_169 (lv_at hl 1 rfl) ?_
            refine lv_iadd hx hb dX8_walks_171 ?_
            refine lv_topi (fun x_74 ex_74 => ?_)
            have e_74 : x_74.toInt = x_73.toInt + t5_c102.toInt := by rw [ex_74]; exact zi_add (rfl) (rfl) (by omega) (by omega)
            clear ex_74
            refine lv_iload hx hb dX8_walks_172 (lv_at hl 0 rfl) ?_
            refine lv_if_eq (tgt := 181) hx hb dX8_walks_174 (by decide) (fun c9 => absurd c9 (by decide)) (fun _ => ?_)
            refine lv_iconst (v := 1) hx hb dX8_walks_177 (by decide) ?_
            refine lv_goto (tgt := 196) hx hb dX8_walks_178 (by decide) ?_
            refine va_iast hx hb hK hP hD hS 1 0 rfl rfl (zi_in (by omega) (by omega)) dX8_walks_196 (fun H locs hP hD hS => ?_)
            have hP : va_P D kl [(h, .inr (7, [.ref sl, .int na, .ref zs, .ref ln, .ref ir, .ref tk, .int su, .int le, .ref tb, .int fu, .int ap, .int pp, .ref tr, .int tc, .ref fz, .int nm])), (sl, .inl (cI, 1653, .inl (upd g0_c102 (x_74 : Int32).toNatClampNeg 1)))] H := hP
            have hD : va_D A [(h, .inr (7, [.ref sl, .int na, .ref zs, .ref ln, .ref ir, .ref tk, .int su, .int le, .ref tb, .int fu, .int ap, .int pp, .ref tr, .int tc, .ref fz, .int nm])), (sl, .inl (cI, 1653, .inl (upd g0_c102 (x_74 : Int32).toNatClampNeg 1)))] := hD
            have ha_75 : SI (upd g0_c102 (x_74 : Int32).toNatClampNeg 1) v0 := si_up ha_g0_c102 (by omega) (fun s0 a0 b0 e0 => by first | decide | omega) (fun s0 a0 b0 e0 => by first | decide | omega) (fun s0 k0 a0 b0 c0 d0 e0 => by first | decide | omega) (by omega)
            obtain ⟨x_76, ex_76⟩ : ∃ y : Int32, y = t5_c102 + Int32.ofInt 1 := ⟨_, rfl⟩
            refine lv_iinc (v := x_76) (lv' := [(5, .int x_76), (6, .int 1), (4, .int r_5), (3, .int x_4), (0, .ref h), (1, .int k), (2, .int v)]) hx hb dX8_walks_197 hl (k := 1) rfl ex_76.symm (by decide) rfl (fun ls hl => ?_)
            have ex_76 : x_76 = t5_c102 + 1 := ex_76
            have e_76 : x_76.toInt = t5_c102.toInt + 1 := by rw [ex_76]; exact zi_add (rfl) (by decide) (by omega) (by omega)
            clear ex_76
            refine lv_goto (tgt := 102) hx hb dX8_walks_200 (by decide) ?_
            exact ih102 x_76 (upd g0_c102 (x_74 : Int32).toNatClampNeg 1) _ _ _ (show 0 ≤ x_76.toInt ∧ x_76.toInt ≤ 8 from by omega) ha_75 (by omega) (hP.sub [0, 1] rfl) (hD.sub [0, 1] (by decide) rfl) hS (lv_sub hl [0, 2, 3, 4, 5, 6] rfl)
        · subst e_57
          refine lv_if_eq (tgt := 155) hx hb dX8_walks_129 (by decide) (fun _ => ?_) (fun c9 => absurd (by decide) c9)
          refine lv_iconst (v := 0) hx hb dX8_walks_155 (by decide) ?_
          refine lv_istore (lv' := [(6, .int 0), (5, .int t5_c102), (4, .int r_5), (3, .int x_4), (0, .ref h), (1, .int k), (2, .int v)]) hx hb dX8_walks_156 hl (by decide) rfl (fun ls hl => ?_)
          refine lv_aload_n hx hb dX8_walks_158 rfl (lv_at hl 4 rfl) ?_
          refine va_get (D := D) (ci := 7) (v := .ref sl) (C := RX8) (T := TX8) (N := 16) hx hb hts (fun _ h => List.mem_cons_of_mem _ (List.mem_append_right _ h)) hown hK hP 0 rfl rfl 0 (by decide) (hts (.fieldLink RX8 7 "WinterWalkModel" "slot" "[I") (List.mem_of_getElem? (i := 1) rfl)) (fun _ h9 => h9) rfl dX8_walks_159 ?_
          refine lv_iload_n hx hb dX8_walks_162 rfl (lv_at hl 5 rfl) ?_
          refine lv_bipush (v := 57) hx hb dX8_walks_163 (by decide) ?_
          refine lv_imul hx hb dX8_walks_165 ?_
          refine lv_topi (fun x_77 ex_77 => ?_)
          have e_77 : x_77.toInt = k.toInt * 57 := by rw [ex_77]; exact zi_mul (rfl) (by decide) (by omega) (by omega)
          clear ex_77
          refine lv_bipush (v := 32) hx hb dX8_walks_166 (by decide) ?_
          refine lv_iadd hx hb dX8_walks_168 ?_
          refine lv_topi (fun x_78 ex_78 => ?_)
          have e_78 : x_78.toInt = x_77.toInt + 32 := by rw [ex_78]; exact zi_add (rfl) (by decide) (by omega) (by omega)
          clear ex_78
          refine lv_iload hx hb dX8_walks_169 (lv_at hl 1 rfl) ?_
          refine lv_iadd hx hb dX8_walks_171 ?_
          refine lv_topi (fun x_79 ex_79 => ?_)
          have e_79 : x_79.toInt = x_78.toInt + t5_c102.toInt := by rw [ex_79]; exact zi_add (rfl) (rfl) (by omega) (by omega)
          clear ex_79
          refine lv_iload hx hb dX8_walks_172 (lv_at hl 0 rfl) ?_
          refine lv_if_eq (tgt := 181) hx hb dX8_walks_174 (by decide) (fun _ => ?_) (fun c9 => absurd (by decide) c9)
          refine lv_aload_n hx hb dX8_walks_181 rfl (lv_at hl 4 rfl) ?_
          refine va_get (D := D) (ci := 7) (v := .ref sl) (C := RX8) (T := TX8) (N := 16) hx hb hts (fun _ h => List.mem_cons_of_mem _ (List.mem_append_right _ h)) hown hK hP 0 rfl rfl 0 (by decide) (hts (.fieldLink RX8 7 "WinterWalkModel" "slot" "[I") (List.mem_of_getElem? (i := 1) rfl)) (fun _ h9 => h9) rfl dX8_walks_182 ?_
          refine lv_iload_n hx hb dX8_walks_185 rfl (lv_at hl 5 rfl) ?_
          refine lv_bipush (v := 57) hx hb dX8_walks_186 (by decide) ?_
          refine lv_imul hx hb dX8_walks_188 ?_
          refine lv_topi (fun x_80 ex_80 => ?_)
          have e_80 : x_80.toInt = k.toInt * 57 := by rw [ex_80]; exact zi_mul (rfl) (by decide) (by omega) (by omega)
          clear ex_80
          refine lv_bipush (v := 32) hx hb dX8_walks_189 (by decide) ?_
          refine lv_iadd hx hb dX8_walks_191 ?_
          refine lv_topi (fun x_81 ex_81 => ?_)
          have e_81 : x_81.toInt = x_80.toInt + 32 := by rw [ex_81]; exact zi_add (rfl) (by decide) (by omega) (by omega)
          clear ex_81
          refine lv_iload hx hb dX8_walks_192 (lv_at hl 1 rfl) ?_
          refine lv_iadd hx hb dX8_walks_194 ?_
          refine lv_topi (fun x_82 ex_82 => ?_)
          have e_82 : x_82.toInt = x_81.toInt + t5_c102.toInt := by rw [ex_82]; exact zi_add (rfl) (rfl) (by omega) (by omega)
          clear ex_82
          refine va_iald hx hb hK hP 1 0 rfl rfl (zi_in (by omega) (by omega)) dX8_walks_195 ?_
          refine lv_topi (fun x_83 ex_83 => ?_)
          clear ex_83
          refine va_iast hx hb hK hP hD hS 1 0 rfl rfl (zi_in (by omega) (by omega)) dX8_walks_196 (fun H locs hP hD hS => ?_)
          have hP : va_P D kl [(h, .inr (7, [.ref sl, .int na, .ref zs, .ref ln, .ref ir, .ref tk, .int su, .int le, .ref tb, .int fu, .int ap, .int pp, .ref tr, .int tc, .ref fz, .int nm])), (sl, .inl (cI, 1653, .inl (upd g0_c102 (x_79 : Int32).toNatClampNeg x_83)))] H := hP
          have hD : va_D A [(h, .inr (7, [.ref sl, .int na, .ref zs, .ref ln, .ref ir, .ref tk, .int su, .int le, .ref tb, .int fu, .int ap, .int pp, .ref tr, .int tc, .ref fz, .int nm])), (sl, .inl (cI, 1653, .inl (upd g0_c102 (x_79 : Int32).toNatClampNeg x_83)))] := hD
          have ha_84 : SI (upd g0_c102 (x_79 : Int32).toNatClampNeg x_83) v0 := si_up ha_g0_c102 (by omega) (fun s0 a0 b0 e0 => by omega) (fun s0 a0 b0 e0 => by omega) (fun s0 k0 a0 b0 c0 d0 e0 => by omega) (by omega)
          obtain ⟨x_85, ex_85⟩ : ∃ y : Int32, y = t5_c102 + Int32.ofInt 1 := ⟨_, rfl⟩
          refine lv_iinc (v := x_85) (lv' := [(5, .int x_85), (6, .int 0), (4, .int r_5), (3, .int x_4), (0, .ref h), (1, .int k), (2, .int v)]) hx hb dX8_walks_197 hl (k := 1) rfl ex_85.symm (by decide) rfl (fun ls hl => ?_)
          have ex_85 : x_85 = t5_c102 + 1 := ex_85
          have e_85 : x_85.toInt = t5_c102.toInt + 1 := by rw [ex_85]; exact zi_add (rfl) (by decide) (by omega) (by omega)
          clear ex_85
          refine lv_goto (tgt := 102) hx hb dX8_walks_200 (by decide) ?_
          exact ih102 x_85 (upd g0_c102 (x_79 : Int32).toNatClampNeg x_83) _ _ _ (show 0 ≤ x_85.toInt ∧ x_85.toInt ≤ 8 from by omega) ha_84 (by omega) (hP.sub [0, 1] rfl) (hD.sub [0, 1] (by decide) rfl) hS (lv_sub hl [0, 2, 3, 4, 5, 6] rfl)
  exact hL102 (((8 - (0 : Int32).toInt).toNat) + 1) 0 (upd (upd (upd (upd sf (x_8 : Int32).toNatClampNeg x_4) (x_12 : Int32).toNatClampNeg r_5) (x_16 : Int32).toNatClampNeg x_18) (x_22 : Int32).toNatClampNeg x_25) _ _ _ (show 0 ≤ 0 ∧ 0 ≤ 8 from by omega) ha_26 (Nat.lt_succ_self _) (hP.sub [0, 1] rfl) (hD.sub [0, 1] (by decide) rfl) hS (lv_sub hl [0, 1, 2, 3, 4, 5] rfl)
set_option maxHeartbeats 4000000 in
set_option maxRecDepth 100000 in
theorem g_X8_day (l : Launch) (D : va_G) (cI cB cQ : ClassId) (sz : Nat) (h : Nat) (sl : Nat) (zs : Nat) (ln : Nat) (ir : Nat) (tk : Nat) (tb : Nat) (tr : Nat) (fz : Nat) (na : Int32) (su : Int32) (le : Int32) (fu : Int32) (ap : Int32) (pp : Int32) (tc : Int32) (nm : Int32) (k : Int32) (b : Int32) (sf : Nat → Int32) (v0 : Int) (hsi : SI sf v0) (h_k : 0 ≤ k.toInt ∧ k.toInt ≤ 28) : mv l yX8_day wsX8_day ({ frames := 4, cells := 0, slots := 0, locals := 99 }) D cI cB cQ [.ref h, .int k, .int b] sz [(h, .inr (7, [.ref sl, .int na, .ref zs, .ref ln, .ref ir, .ref tk, .int su, .int le, .ref tb, .int fu, .int ap, .int pp, .ref tr, .int tc, .ref fz, .int nm])), (sl, .inl (cI, 1653, .inl sf))] (fun (u : (Nat → Int32)) => (SI u v0)) (fun u => [(h, .inr (7, [.ref sl, .int na, .ref zs, .ref ln, .ref ir, .ref tk, .int su, .int le, .ref tb, .int fu, .int ap, .int pp, .ref tr, .int tc, .ref fz, .int nm])), (sl, .inl (cI, 1653, .inl u))]) 0 0 := by
  refine wm_v (cc := cX8_day) (maxL := 4) (ret := none) (by decide) rfl (Nat.le_of_ble_eq_true rfl) ?_
  intro p e s m below meth c A ls hx hb hr hml hown hts hlocks hin hP hK hD hN hA hl hS
  have hown : s.vm.findClass RX8 = some m.cls := hown
  have hl : lv_has ls 4 [(0, .ref h), (1, .int k), (2, .int b)] := hl
  change W p l e ({ frames := 4, cells := 0, slots := 0, locals := 99 }) s m ([.ref h, .int k, .int b] : List Value).toArray below meth c s.heap [] 0 0 (MQ below (va_Qv (fun (u : (Nat → Int32)) => (SI u v0)) (fun u t => wb D A ((fun u => [(h, .inr (7, [.ref sl, .int na, .ref zs, .ref ln, .ref ir, .ref tk, .int su, .int le, .ref tb, .int fu, .int ap, .int pp, .ref tr, .int tc, .ref fz, .int nm])), (sl, .inl (cI, 1653, .inl u))]) u) t) A) ([.ref h, .int k, .int b] : List Value).toArray s 0 0 A) (F0 m 0 ls [])
  refine lv_iconst (v := 0) hx hb dX8_day_0 (by decide) ?_
  refine lv_istore_n (lv' := [(3, .int 0), (0, .ref h), (1, .int k), (2, .int b)]) hx hb dX8_day_1 rfl hl (by decide) rfl (fun ls hl => ?_)
  have hL2 : ∀ (nf : Nat) (t3_c2 : Int32) (g0_c2 : Nat → Int32) (H : Heap) (locs : List Loc) (ls : Array Slot), (0 ≤ t3_c2.toInt ∧ t3_c2.toInt ≤ 8) → (SI g0_c2 v0) → (8 - t3_c2.toInt).toNat < nf → va_P D kl [(h, .inr (7, [.ref sl, .int na, .ref zs, .ref ln, .ref ir, .ref tk, .int su, .int le, .ref tb, .int fu, .int ap, .int pp, .ref tr, .int tc, .ref fz, .int nm])), (sl, .inl (cI, 1653, .inl g0_c2))] H → va_D A [(h, .inr (7, [.ref sl, .int na, .ref zs, .ref ln, .ref ir, .ref tk, .int su, .int le, .ref tb, .int fu, .int ap, .int pp, .ref tr, .int tc, .ref fz, .int nm])), (sl, .inl (cI, 1653, .inl g0_c2))] → va_S A s.heap H locs → lv_has ls 4 [(3, .int t3_c2), (0, .ref h), (1, .int k), (2, .int b)] → W p l e ({ frames := 4, cells := 0, slots := 0, locals := 99 }) s m ([.ref h, .int k, .int b] : List Value).toArray below meth c H locs 0 0 (MQ below (va_Qv (fun (u : (Nat → Int32)) => (SI u v0)) (fun u t => wb D A ((fun u => [(h, .inr (7, [.ref sl, .int na, .ref zs, .ref ln, .ref ir, .ref tk, .int su, .int le, .ref tb, .int fu, .int ap, .int pp, .ref tr, .int tc, .ref fz, .int nm])), (sl, .inl (cI, 1653, .inl u))]) u) t) A) ([.ref h, .int k, .int b] : List Value).toArray s 0 0 A) (F0 m 2 ls []) := by
    intro nf
    induction nf with
    | zero =>
      intro t3_c2 g0_c2 H locs ls i_t3_c2 ha_g0_c2 hm
      exact absurd hm (Nat.not_lt_zero _)
    | succ nf ih2 =>
      intro t3_c2 g0_c2 H locs ls i_t3_c2 ha_g0_c2 hm2 hP hD hS hl
      refine lv_iload_n hx hb dX8_day_2 rfl (lv_at hl 0 rfl) ?_
      refine lv_bipush (v := 8) hx hb dX8_day_3 (by decide) ?_
      refine lv_icmp_ge (tgt := 53) hx hb dX8_day_5 (by decide) (fun c_1 => ?_) (fun c_1 => ?_)
      · have f_1 : 8 ≤ t3_c2.toInt := zi_le c_1
        refine lv_iconst (v := 0) hx hb dX8_day_53 (by decide) ?_
        refine lv_istore_n (lv' := [(3, .int 0), (0, .ref h), (1, .int k), (2, .int b)]) hx hb dX8_day_54 rfl hl (by decide) rfl (fun ls hl => ?_)
        have hL55 : ∀ (nf : Nat) (t3_c55 : Int32) (g0_c55 : Nat → Int32) (H : Heap) (locs : List Loc) (ls : Array Slot), (0 ≤ t3_c55.toInt ∧ t3_c55.toInt ≤ 3) → (SI g0_c55 v0) → (3 - t3_c55.toInt).toNat < nf → va_P D kl [(h, .inr (7, [.ref sl, .int na, .ref zs, .ref ln, .ref ir, .ref tk, .int su, .int le, .ref tb, .int fu, .int ap, .int pp, .ref tr, .int tc, .ref fz, .int nm])), (sl, .inl (cI, 1653, .inl g0_c55))] H → va_D A [(h, .inr (7, [.ref sl, .int na, .ref zs, .ref ln, .ref ir, .ref tk, .int su, .int le, .ref tb, .int fu, .int ap, .int pp, .ref tr, .int tc, .ref fz, .int nm])), (sl, .inl (cI, 1653, .inl g0_c55))] → va_S A s.heap H locs → lv_has ls 4 [(3, .int t3_c55), (0, .ref h), (1, .int k), (2, .int b)] → W p l e ({ frames := 4, cells := 0, slots := 0, locals := 99 }) s m ([.ref h, .int k, .int b] : List Value).toArray below meth c H locs 0 0 (MQ below (va_Qv (fun (u : (Nat → Int32)) => (SI u v0)) (fun u t => wb D A ((fun u => [(h, .inr (7, [.ref sl, .int na, .ref zs, .ref ln, .ref ir, .ref tk, .int su, .int le, .ref tb, .int fu, .int ap, .int pp, .ref tr, .int tc, .ref fz, .int nm])), (sl, .inl (cI, 1653, .inl u))]) u) t) A) ([.ref h, .int k, .int b] : List Value).toArray s 0 0 A) (F0 m 55 ls []) := by
          intro nf
          induction nf with
          | zero =>
            intro t3_c55 g0_c55 H locs ls i_t3_c55 ha_g0_c55 hm
            exact absurd hm (Nat.not_lt_zero _)
          | succ nf ih55 =>
            intro t3_c55 g0_c55 H locs ls i_t3_c55 ha_g0_c55 hm55 hP hD hS hl
            refine lv_iload_n hx hb dX8_day_55 rfl (lv_at hl 0 rfl) ?_
            refine lv_aload_n hx hb dX8_day_56 rfl (lv_at hl 1 rfl) ?_
            refine va_get (D := D) (ci := 7) (v := .ref sl) (C := RX8) (T := TX8) (N := 16) hx hb hts (fun _ h => List.mem_cons_of_mem _ (List.mem_append_right _ h)) hown hK hP 0 rfl rfl 0 (by decide) (hts (.fieldLink RX8 7 "WinterWalkModel" "slot" "[I") (List.mem_of_getElem? (i := 1) rfl)) (fun _ h9 => h9) rfl dX8_day_57 ?_
            refine lv_iload_n hx hb dX8_day_60 rfl (lv_at hl 2 rfl) ?_
            refine lv_bipush (v := 57) hx hb dX8_day_61 (by decide) ?_
            refine lv_imul hx hb dX8_day_63 ?_
            refine lv_topi (fun x_2 ex_2 => ?_)
            have e_2 : x_2.toInt = k.toInt * 57 := by rw [ex_2]; exact zi_mul (rfl) (by decide) (by omega) (by omega)
            clear ex_2
            refine lv_iconst (v := 2) hx hb dX8_day_64 (by decide) ?_
            refine lv_iadd hx hb dX8_day_65 ?_
            refine lv_topi (fun x_3 ex_3 => ?_)
            have e_3 : x_3.toInt = x_2.toInt + 2 := by rw [ex_3]; exact zi_add (rfl) (by decide) (by omega) (by omega)
            clear ex_3
            refine va_iald hx hb hK hP 1 0 rfl rfl (zi_in (by omega) (by omega)) dX8_day_66 ?_
            refine lv_topi (fun x_4 ex_4 => ?_)
            have f_4 : 0 ≤ x_4.toInt ∧ x_4.toInt ≤ 3 := by rw [ex_4]; exact si_w ha_g0_c55 (s := k.toInt) (by omega) (by omega)
            clear ex_4
            refine lv_icmp_ge (tgt := 91) hx hb dX8_day_67 (by decide) (fun c_5 => ?_) (fun c_5 => ?_)
            · have f_5 : x_4.toInt ≤ t3_c55.toInt := zi_le c_5
              refine lv_aload_n hx hb dX8_day_91 rfl (lv_at hl 1 rfl) ?_
              refine va_get (D := D) (ci := 7) (v := .ref sl) (C := RX8) (T := TX8) (N := 16) hx hb hts (fun _ h => List.mem_cons_of_mem _ (List.mem_append_right _ h)) hown hK hP 0 rfl rfl 0 (by decide) (hts (.fieldLink RX8 7 "WinterWalkModel" "slot" "[I") (List.mem_of_getElem? (i := 1) rfl)) (fun _ h9 => h9) rfl dX8_day_92 ?_
              refine lv_iload_n hx hb dX8_day_95 rfl (lv_at hl 2 rfl) ?_
              refine lv_bipush (v := 57) hx hb dX8_day_96 (by decide) ?_
              refine lv_imul hx hb dX8_day_98 ?_
              refine lv_topi (fun x_6 ex_6 => ?_)
              have e_6 : x_6.toInt = k.toInt * 57 := by rw [ex_6]; exact zi_mul (rfl) (by decide) (by omega) (by omega)
              clear ex_6
              refine lv_bipush (v := 54) hx hb dX8_day_99 (by decide) ?_
              refine lv_iadd hx hb dX8_day_101 ?_
              refine lv_topi (fun x_7 ex_7 => ?_)
              have e_7 : x_7.toInt = x_6.toInt + 54 := by rw [ex_7]; exact zi_add (rfl) (by decide) (by omega) (by omega)
              clear ex_7
              refine lv_dup2_11 hx hb dX8_day_102 rfl rfl ?_
              refine va_iald hx hb hK hP 1 0 rfl rfl (zi_in (by omega) (by omega)) dX8_day_103 ?_
              refine lv_topi (fun x_8 ex_8 => ?_)
              clear ex_8
              refine lv_iconst (v := 1) hx hb dX8_day_104 (by decide) ?_
              refine lv_iadd hx hb dX8_day_105 ?_
              refine lv_topi (fun x_9 ex_9 => ?_)
              clear ex_9
              refine va_iast hx hb hK hP hD hS 1 0 rfl rfl (zi_in (by omega) (by omega)) dX8_day_106 (fun H locs hP hD hS => ?_)
              have hP : va_P D kl [(h, .inr (7, [.ref sl, .int na, .ref zs, .ref ln, .ref ir, .ref tk, .int su, .int le, .ref tb, .int fu, .int ap, .int pp, .ref tr, .int tc, .ref fz, .int nm])), (sl, .inl (cI, 1653, .inl (upd g0_c55 (x_7 : Int32).toNatClampNeg x_9)))] H := hP
              have hD : va_D A [(h, .inr (7, [.ref sl, .int na, .ref zs, .ref ln, .ref ir, .ref tk, .int su, .int le, .ref tb, .int fu, .int ap, .int pp, .ref tr, .int tc, .ref fz, .int nm])), (sl, .inl (cI, 1653, .inl (upd g0_c55 (x_7 : Int32).toNatClampNeg x_9)))] := hD
              have ha_10 : SI (upd g0_c55 (x_7 : Int32).toNatClampNeg x_9) v0 := si_up ha_g0_c55 (by omega) (fun s0 a0 b0 e0 => by omega) (fun s0 a0 b0 e0 => by omega) (fun s0 k0 a0 b0 c0 d0 e0 => by omega) (by omega)
              exact wr_v hx hb hr hlocks hS (upd g0_c55 (x_7 : Int32).toNatClampNeg x_9) (by exact ha_10) (hP.sub [0, 1] rfl) (hD.sub [0, 1] (by decide) rfl) dX8_day_107
            · have f_5 : ¬ x_4.toInt ≤ t3_c55.toInt := zi_nle c_5
              refine lv_iload_n hx hb dX8_day_70 rfl (lv_at hl 3 rfl) ?_
              refine lv_if_lt (tgt := 79) hx hb dX8_day_71 (by decide) (fun c_11 => ?_) (fun c_11 => ?_)
              · have f_11 : b.toInt < 0 := zi_lt c_11
                refine lv_aload_n hx hb dX8_day_79 rfl (lv_at hl 1 rfl) ?_
                refine lv_iload_n hx hb dX8_day_80 rfl (lv_at hl 2 rfl) ?_
                refine lv_iload_n hx hb dX8_day_81 rfl (lv_at hl 0 rfl) ?_
                have k_12 := (g_X8_walks l D cI cB cQ H.size h sl zs ln ir tk tb tr fz na su le fu ap pp tc nm k t3_c55 g0_c55 v0 ha_g0_c55 (by omega) (by omega))
                refine wc_v (WC := [(h, .inr (7, [.ref sl, .int na, .ref zs, .ref ln, .ref ir, .ref tk, .int su, .int le, .ref tb, .int fu, .int ap, .int pp, .ref tr, .int tc, .ref fz, .int nm])), (sl, .inl (cI, 1653, .inl g0_c55))]) (WR := []) (va_runV (As := [.int k, .int t3_c55]) (rest := []) ⟨hx, hb, hml, hown, hts⟩ k_12 (cwV 2 hts gX8_day_X8_walks rfl rfl rfl (by decide +kernel) ⟨Nat.le_of_ble_eq_true rfl, Nat.le_of_ble_eq_true rfl⟩) (wp_V hP hK hD hN [0, 1] (by decide) rfl (ci := 7) rfl rfl) rfl rfl hl.1 rfl (lv_room (Nat.le_of_ble_eq_true rfl)) dX8_day_82 ⟨Nat.le_of_ble_eq_true rfl, Nat.le_of_ble_eq_true rfl⟩) hP hD hS hA [0, 1] [] rfl rfl (by decide) (by decide) (fun u_12 H locs hw_12 hP hD hS => ?_)
                clear k_12
                have hP : va_P D kl [(h, .inr (7, [.ref sl, .int na, .ref zs, .ref ln, .ref ir, .ref tk, .int su, .int le, .ref tb, .int fu, .int ap, .int pp, .ref tr, .int tc, .ref fz, .int nm])), (sl, .inl (cI, 1653, .inl u_12))] H := hP
                have hD : va_D A [(h, .inr (7, [.ref sl, .int na, .ref zs, .ref ln, .ref ir, .ref tk, .int su, .int le, .ref tb, .int fu, .int ap, .int pp, .ref tr, .int tc, .ref fz, .int nm])), (sl, .inl (cI, 1653, .inl u_12))] := hD
                have c12_0 := hw_12
                have c12_0 : SI u_12 v0 := c12_0
                obtain ⟨x_13, ex_13⟩ : ∃ y : Int32, y = t3_c55 + Int32.ofInt 1 := ⟨_, rfl⟩
                refine lv_iinc (v := x_13) (lv' := [(3, .int x_13), (0, .ref h), (1, .int k), (2, .int b)]) hx hb dX8_day_85 hl (k := 0) rfl ex_13.symm (by decide) rfl (fun ls hl => ?_)
                have ex_13 : x_13 = t3_c55 + 1 := ex_13
                have e_13 : x_13.toInt = t3_c55.toInt + 1 := by rw [ex_13]; exact zi_add (rfl) (by decide) (by omega) (by omega)
                clear ex_13
                refine lv_goto (tgt := 55) hx hb dX8_day_88 (by decide) ?_
                exact ih55 x_13 u_12 _ _ _ (show 0 ≤ x_13.toInt ∧ x_13.toInt ≤ 3 from by omega) c12_0 (by omega) (hP.sub [0, 1] rfl) (hD.sub [0, 1] (by decide) rfl) hS (lv_sub hl [0, 1, 2, 3] rfl)
              · have f_11 : ¬ b.toInt < 0 := zi_nlt c_11
                refine lv_iload_n hx hb dX8_day_74 rfl (lv_at hl 0 rfl) ?_
                refine lv_iload_n hx hb dX8_day_75 rfl (lv_at hl 3 rfl) ?_
                refine lv_icmp_ne (tgt := 85) hx hb dX8_day_76 (by decide) (fun c_14 => ?_) (fun c_14 => ?_)
                · have f_14 : ¬ t3_c55.toInt = b.toInt := zi_ne c_14
                  obtain ⟨x_15, ex_15⟩ : ∃ y : Int32, y = t3_c55 + Int32.ofInt 1 := ⟨_, rfl⟩
                  refine lv_iinc (v := x_15) (lv' := [(3, .int x_15), (0, .ref h), (1, .int k), (2, .int b)]) hx hb dX8_day_85 hl (k := 0) rfl ex_15.symm (by decide) rfl (fun ls hl => ?_)
                  have ex_15 : x_15 = t3_c55 + 1 := ex_15
                  have e_15 : x_15.toInt = t3_c55.toInt + 1 := by rw [ex_15]; exact zi_add (rfl) (by decide) (by omega) (by omega)
                  clear ex_15
                  refine lv_goto (tgt := 55) hx hb dX8_day_88 (by decide) ?_
                  exact ih55 x_15 g0_c55 _ _ _ (show 0 ≤ x_15.toInt ∧ x_15.toInt ≤ 3 from by omega) ha_g0_c55 (by omega) (hP.sub [0, 1] rfl) (hD.sub [0, 1] (by decide) rfl) hS (lv_sub hl [0, 1, 2, 3] rfl)
                · have f_14 : t3_c55.toInt = b.toInt := zi_eq c_14
                  refine lv_aload_n hx hb dX8_day_79 rfl (lv_at hl 1 rfl) ?_
                  refine lv_iload_n hx hb dX8_day_80 rfl (lv_at hl 2 rfl) ?_
                  refine lv_iload_n hx hb dX8_day_81 rfl (lv_at hl 0 rfl) ?_
                  have k_16 := (g_X8_walks l D cI cB cQ H.size h sl zs ln ir tk tb tr fz na su le fu ap pp tc nm k t3_c55 g0_c55 v0 ha_g0_c55 (by omega) (by omega))
                  refine wc_v (WC := [(h, .inr (7, [.ref sl, .int na, .ref zs, .ref ln, .ref ir, .ref tk, .int su, .int le, .ref tb, .int fu, .int ap, .int pp, .ref tr, .int tc, .ref fz, .int nm])), (sl, .inl (cI, 1653, .inl g0_c55))]) (WR := []) (va_runV (As := [.int k, .int t3_c55]) (rest := []) ⟨hx, hb, hml, hown, hts⟩ k_16 (cwV 2 hts gX8_day_X8_walks rfl rfl rfl (by decide +kernel) ⟨Nat.le_of_ble_eq_true rfl, Nat.le_of_ble_eq_true rfl⟩) (wp_V hP hK hD hN [0, 1] (by decide) rfl (ci := 7) rfl rfl) rfl rfl hl.1 rfl (lv_room (Nat.le_of_ble_eq_true rfl)) dX8_day_82 ⟨Nat.le_of_ble_eq_true rfl, Nat.le_of_ble_eq_true rfl⟩) hP hD hS hA [0, 1] [] rfl rfl (by decide) (by decide) (fun u_16 H locs hw_16 hP hD hS => ?_)
                  clear k_16
                  have hP : va_P D kl [(h, .inr (7, [.ref sl, .int na, .ref zs, .ref ln, .ref ir, .ref tk, .int su, .int le, .ref tb, .int fu, .int ap, .int pp, .ref tr, .int tc, .ref fz, .int nm])), (sl, .inl (cI, 1653, .inl u_16))] H := hP
                  have hD : va_D A [(h, .inr (7, [.ref sl, .int na, .ref zs, .ref ln, .ref ir, .ref tk, .int su, .int le, .ref tb, .int fu, .int ap, .int pp, .ref tr, .int tc, .ref fz, .int nm])), (sl, .inl (cI, 1653, .inl u_16))] := hD
                  have c16_0 := hw_16
                  have c16_0 : SI u_16 v0 := c16_0
                  obtain ⟨x_17, ex_17⟩ : ∃ y : Int32, y = t3_c55 + Int32.ofInt 1 := ⟨_, rfl⟩
                  refine lv_iinc (v := x_17) (lv' := [(3, .int x_17), (0, .ref h), (1, .int k), (2, .int b)]) hx hb dX8_day_85 hl (k := 0) rfl ex_17.symm (by decide) rfl (fun ls hl => ?_)
                  have ex_17 : x_17 = t3_c55 + 1 := ex_17
                  have e_17 : x_17.toInt = t3_c55.toInt + 1 := by rw [ex_17]; exact zi_add (rfl) (by decide) (by omega) (by omega)
                  clear ex_17
                  refine lv_goto (tgt := 55) hx hb dX8_day_88 (by decide) ?_
                  exact ih55 x_17 u_16 _ _ _ (show 0 ≤ x_17.toInt ∧ x_17.toInt ≤ 3 from by omega) c16_0 (by omega) (hP.sub [0, 1] rfl) (hD.sub [0, 1] (by decide) rfl) hS (lv_sub hl [0, 1, 2, 3] rfl)
        exact hL55 (((3 - (0 : Int32).toInt).toNat) + 1) 0 g0_c2 _ _ _ (show 0 ≤ 0 ∧ 0 ≤ 3 from by omega) ha_g0_c2 (Nat.lt_succ_self _) (hP.sub [0, 1] rfl) (hD.sub [0, 1] (by decide) rfl) hS (lv_sub hl [0, 1, 2, 3] rfl)
      · have f_1 : ¬ 8 ≤ t3_c2.toInt := zi_nle c_1
        refine lv_aload_n hx hb dX8_day_8 rfl (lv_at hl 1 rfl) ?_
        refine va_get (D := D) (ci := 7) (v := .ref sl) (C := RX8) (T := TX8) (N := 16) hx hb hts (fun _ h => List.mem_cons_of_mem _ (List.mem_append_right _ h)) hown hK hP 0 rfl rfl 0 (by decide) (hts (.fieldLink RX8 7 "WinterWalkModel" "slot" "[I") (List.mem_of_getElem? (i := 1) rfl)) (fun _ h9 => h9) rfl dX8_day_9 ?_
        refine lv_iload_n hx hb dX8_day_12 rfl (lv_at hl 2 rfl) ?_
        refine lv_bipush (v := 57) hx hb dX8_day_13 (by decide) ?_
        refine lv_imul hx hb dX8_day_15 ?_
        refine lv_topi (fun x_18 ex_18 => ?_)
        have e_18 : x_18.toInt = k.toInt * 57 := by rw [ex_18]; exact zi_mul (rfl) (by decide) (by omega) (by omega)
        clear ex_18
        refine lv_bipush (v := 32) hx hb dX8_day_16 (by decide) ?_
        refine lv_iadd hx hb dX8_day_18 ?_
        refine lv_topi (fun x_19 ex_19 => ?_)
        have e_19 : x_19.toInt = x_18.toInt + 32 := by rw [ex_19]; exact zi_add (rfl) (by decide) (by omega) (by omega)
        clear ex_19
        refine lv_iload_n hx hb dX8_day_19 rfl (lv_at hl 0 rfl) ?_
        refine lv_iadd hx hb dX8_day_20 ?_
        refine lv_topi (fun x_20 ex_20 => ?_)
        have e_20 : x_20.toInt = x_19.toInt + t3_c2.toInt := by rw [ex_20]; exact zi_add (rfl) (rfl) (by omega) (by omega)
        clear ex_20
        refine lv_dup2_11 hx hb dX8_day_21 rfl rfl ?_
        refine va_iald hx hb hK hP 1 0 rfl rfl (zi_in (by omega) (by omega)) dX8_day_22 ?_
        refine lv_topi (fun x_21 ex_21 => ?_)
        clear ex_21
        refine lv_aload_n hx hb dX8_day_23 rfl (lv_at hl 1 rfl) ?_
        refine va_get (D := D) (ci := 7) (v := .ref sl) (C := RX8) (T := TX8) (N := 16) hx hb hts (fun _ h => List.mem_cons_of_mem _ (List.mem_append_right _ h)) hown hK hP 0 rfl rfl 0 (by decide) (hts (.fieldLink RX8 7 "WinterWalkModel" "slot" "[I") (List.mem_of_getElem? (i := 1) rfl)) (fun _ h9 => h9) rfl dX8_day_24 ?_
        refine lv_iload_n hx hb dX8_day_27 rfl (lv_at hl 2 rfl) ?_
        refine lv_bipush (v := 57) hx hb dX8_day_28 (by decide) ?_
        refine lv_imul hx hb dX8_day_30 ?_
        refine lv_topi (fun x_22 ex_22 => ?_)
        have e_22 : x_22.toInt = k.toInt * 57 := by rw [ex_22]; exact zi_mul (rfl) (by decide) (by omega) (by omega)
        clear ex_22
        refine lv_bipush (v := 32) hx hb dX8_day_31 (by decide) ?_
        refine lv_iadd hx hb dX8_day_33 ?_
        refine lv_topi (fun x_23 ex_23 => ?_)
        have e_23 : x_23.toInt = x_22.toInt + 32 := by rw [ex_23]; exact zi_add (rfl) (by decide) (by omega) (by omega)
        clear ex_23
        refine lv_iload_n hx hb dX8_day_34 rfl (lv_at hl 0 rfl) ?_
        refine lv_iadd hx hb dX8_day_35 ?_
        refine lv_topi (fun x_24 ex_24 => ?_)
        have e_24 : x_24.toInt = x_23.toInt + t3_c2.toInt := by rw [ex_24]; exact zi_add (rfl) (rfl) (by omega) (by omega)
        clear ex_24
        refine va_iald hx hb hK hP 1 0 rfl rfl (zi_in (by omega) (by omega)) dX8_day_36 ?_
        refine lv_topi (fun x_25 ex_25 => ?_)
        clear ex_25
        refine lv_if_le (tgt := 44) hx hb dX8_day_37 (by decide) (fun c_26 => ?_) (fun c_26 => ?_)
        · have f_26 : x_25.toInt ≤ 0 := zi_le c_26
          refine lv_iconst (v := 0) hx hb dX8_day_44 (by decide) ?_
          refine lv_isub hx hb dX8_day_45 ?_
          refine lv_topi (fun x_27 ex_27 => ?_)
          clear ex_27
          refine va_iast hx hb hK hP hD hS 1 0 rfl rfl (zi_in (by omega) (by omega)) dX8_day_46 (fun H locs hP hD hS => ?_)
          have hP : va_P D kl [(h, .inr (7, [.ref sl, .int na, .ref zs, .ref ln, .ref ir, .ref tk, .int su, .int le, .ref tb, .int fu, .int ap, .int pp, .ref tr, .int tc, .ref fz, .int nm])), (sl, .inl (cI, 1653, .inl (upd g0_c2 (x_20 : Int32).toNatClampNeg x_27)))] H := hP
          have hD : va_D A [(h, .inr (7, [.ref sl, .int na, .ref zs, .ref ln, .ref ir, .ref tk, .int su, .int le, .ref tb, .int fu, .int ap, .int pp, .ref tr, .int tc, .ref fz, .int nm])), (sl, .inl (cI, 1653, .inl (upd g0_c2 (x_20 : Int32).toNatClampNeg x_27)))] := hD
          have ha_28 : SI (upd g0_c2 (x_20 : Int32).toNatClampNeg x_27) v0 := si_up ha_g0_c2 (by omega) (fun s0 a0 b0 e0 => by omega) (fun s0 a0 b0 e0 => by omega) (fun s0 k0 a0 b0 c0 d0 e0 => by omega) (by omega)
          obtain ⟨x_29, ex_29⟩ : ∃ y : Int32, y = t3_c2 + Int32.ofInt 1 := ⟨_, rfl⟩
          refine lv_iinc (v := x_29) (lv' := [(3, .int x_29), (0, .ref h), (1, .int k), (2, .int b)]) hx hb dX8_day_47 hl (k := 0) rfl ex_29.symm (by decide) rfl (fun ls hl => ?_)
          have ex_29 : x_29 = t3_c2 + 1 := ex_29
          have e_29 : x_29.toInt = t3_c2.toInt + 1 := by rw [ex_29]; exact zi_add (rfl) (by decide) (by omega) (by omega)
          clear ex_29
          refine lv_goto (tgt := 2) hx hb dX8_day_50 (by decide) ?_
          exact ih2 x_29 (upd g0_c2 (x_20 : Int32).toNatClampNeg x_27) _ _ _ (show 0 ≤ x_29.toInt ∧ x_29.toInt ≤ 8 from by omega) ha_28 (by omega) (hP.sub [0, 1] rfl) (hD.sub [0, 1] (by decide) rfl) hS (lv_sub hl [0, 1, 2, 3] rfl)
        · have f_26 : ¬ x_25.toInt ≤ 0 := zi_nle c_26
          refine lv_iconst (v := 1) hx hb dX8_day_40 (by decide) ?_
          refine lv_goto (tgt := 45) hx hb dX8_day_41 (by decide) ?_
          refine lv_isub hx hb dX8_day_45 ?_
          refine lv_topi (fun x_30 ex_30 => ?_)
          clear ex_30
          refine va_iast hx hb hK hP hD hS 1 0 rfl rfl (zi_in (by omega) (by omega)) dX8_day_46 (fun H locs hP hD hS => ?_)
          have hP : va_P D kl [(h, .inr (7, [.ref sl, .int na, .ref zs, .ref ln, .ref ir, .ref tk, .int su, .int le, .ref tb, .int fu, .int ap, .int pp, .ref tr, .int tc, .ref fz, .int nm])), (sl, .inl (cI, 1653, .inl (upd g0_c2 (x_20 : Int32).toNatClampNeg x_30)))] H := hP
          have hD : va_D A [(h, .inr (7, [.ref sl, .int na, .ref zs, .ref ln, .ref ir, .ref tk, .int su, .int le, .ref tb, .int fu, .int ap, .int pp, .ref tr, .int tc, .ref fz, .int nm])), (sl, .inl (cI, 1653, .inl (upd g0_c2 (x_20 : Int32).toNatClampNeg x_30)))] := hD
          have ha_31 : SI (upd g0_c2 (x_20 : Int32).toNatClampNeg x_30) v0 := si_up ha_g0_c2 (by omega) (fun s0 a0 b0 e0 => by omega) (fun s0 a0 b0 e0 => by omega) (fun s0 k0 a0 b0 c0 d0 e0 => by omega) (by omega)
          obtain ⟨x_32, ex_32⟩ : ∃ y : Int32, y = t3_c2 + Int32.ofInt 1 := ⟨_, rfl⟩
          refine lv_iinc (v := x_32) (lv' := [(3, .int x_32), (0, .ref h), (1, .int k), (2, .int b)]) hx hb dX8_day_47 hl (k := 0) rfl ex_32.symm (by decide) rfl (fun ls hl => ?_)
          have ex_32 : x_32 = t3_c2 + 1 := ex_32
          have e_32 : x_32.toInt = t3_c2.toInt + 1 := by rw [ex_32]; exact zi_add (rfl) (by decide) (by omega) (by omega)
          clear ex_32
          refine lv_goto (tgt := 2) hx hb dX8_day_50 (by decide) ?_
          exact ih2 x_32 (upd g0_c2 (x_20 : Int32).toNatClampNeg x_30) _ _ _ (show 0 ≤ x_32.toInt ∧ x_32.toInt ≤ 8 from by omega) ha_31 (by omega) (hP.sub [0, 1] rfl) (hD.sub [0, 1] (by decide) rfl) hS (lv_sub hl [0, 1, 2, 3] rfl)
  exact hL2 (((8 - (0 : Int32).toInt).toNat) + 1) 0 sf _ _ _ (show 0 ≤ 0 ∧ 0 ≤ 8 from by omega) hsi (Nat.lt_succ_self _) (hP.sub [0, 1] rfl) (hD.sub [0, 1] (by decide) rfl) hS (lv_sub hl [0, 1, 2, 3] rfl)
set_option maxHeartbeats 4000000 in
set_option maxRecDepth 100000 in
theorem g_X8_again (l : Launch) (D : va_G) (cI cB cQ : ClassId) (sz : Nat) (h : Nat) (sl : Nat) (zs : Nat) (ln : Nat) (ir : Nat) (tk : Nat) (tb : Nat) (tr : Nat) (fz : Nat) (na : Int32) (su : Int32) (le : Int32) (fu : Int32) (ap : Int32) (pp : Int32) (tc : Int32) (nm : Int32) (n : Int32) (sf : Nat → Int32) (v0 : Int) (hsi : SI sf v0) (h_n : 0 ≤ n.toInt ∧ n.toInt ≤ 100) : mv l yX8_again wsX8_again ({ frames := 5, cells := 0, slots := 0, locals := 122 }) D cI cB cQ [.ref h, .int n] sz [(h, .inr (7, [.ref sl, .int na, .ref zs, .ref ln, .ref ir, .ref tk, .int su, .int le, .ref tb, .int fu, .int ap, .int pp, .ref tr, .int tc, .ref fz, .int nm])), (sl, .inl (cI, 1653, .inl sf))] (fun (u : (Nat → Int32)) => (SI u v0)) (fun u => [(h, .inr (7, [.ref sl, .int na, .ref zs, .ref ln, .ref ir, .ref tk, .int su, .int le, .ref tb, .int fu, .int ap, .int pp, .ref tr, .int tc, .ref fz, .int nm])), (sl, .inl (cI, 1653, .inl u))]) 0 0 := by
  refine wm_v (cc := cX8_again) (maxL := 3) (ret := none) (by decide) rfl (Nat.le_of_ble_eq_true rfl) ?_
  intro p e s m below meth c A ls hx hb hr hml hown hts hlocks hin hP hK hD hN hA hl hS
  have hown : s.vm.findClass RX8 = some m.cls := hown
  have hl : lv_has ls 3 [(0, .ref h), (1, .int n)] := hl
  change W p l e ({ frames := 5, cells := 0, slots := 0, locals := 122 }) s m ([.ref h, .int n] : List Value).toArray below meth c s.heap [] 0 0 (MQ below (va_Qv (fun (u : (Nat → Int32)) => (SI u v0)) (fun u t => wb D A ((fun u => [(h, .inr (7, [.ref sl, .int na, .ref zs, .ref ln, .ref ir, .ref tk, .int su, .int le, .ref tb, .int fu, .int ap, .int pp, .ref tr, .int tc, .ref fz, .int nm])), (sl, .inl (cI, 1653, .inl u))]) u) t) A) ([.ref h, .int n] : List Value).toArray s 0 0 A) (F0 m 0 ls [])
  refine lv_aload_n hx hb dX8_again_0 rfl (lv_at hl 0 rfl) ?_
  refine lv_iconst (v := 0) hx hb dX8_again_1 (by decide) ?_
  refine lv_bipush (v := 27) hx hb dX8_again_2 (by decide) ?_
  have k_1 := (g_X8_copies l D cI cB cQ s.heap.size h sl zs ln ir tk tb tr fz na su le fu ap pp tc nm 0 27 sf v0 hsi ⟨by decide, by decide⟩ ⟨by decide, by decide⟩)
  refine wc_v (WC := [(h, .inr (7, [.ref sl, .int na, .ref zs, .ref ln, .ref ir, .ref tk, .int su, .int le, .ref tb, .int fu, .int ap, .int pp, .ref tr, .int tc, .ref fz, .int nm])), (sl, .inl (cI, 1653, .inl sf))]) (WR := []) (va_runV (As := [.int 0, .int 27]) (rest := []) ⟨hx, hb, hml, hown, hts⟩ k_1 (cwV 2 hts gX8_again_X8_copies rfl rfl rfl (by decide +kernel) ⟨Nat.le_of_ble_eq_true rfl, Nat.le_of_ble_eq_true rfl⟩) (wp_V hP hK hD hN [0, 1] (by decide) rfl (ci := 7) rfl rfl) rfl rfl hl.1 rfl (lv_room (Nat.le_of_ble_eq_true rfl)) dX8_again_4 ⟨Nat.le_of_ble_eq_true rfl, Nat.le_of_ble_eq_true rfl⟩) hP hD hS hA [0, 1] [] rfl rfl (by decide) (by decide) (fun u_1 H locs hw_1 hP hD hS => ?_)
  clear k_1
  have hP : va_P D kl [(h, .inr (7, [.ref sl, .int na, .ref zs, .ref ln, .ref ir, .ref tk, .int su, .int le, .ref tb, .int fu, .int ap, .int pp, .ref tr, .int tc, .ref fz, .int nm])), (sl, .inl (cI, 1653, .inl u_1))] H := hP
  have hD : va_D A [(h, .inr (7, [.ref sl, .int na, .ref zs, .ref ln, .ref ir, .ref tk, .int su, .int le, .ref tb, .int fu, .int ap, .int pp, .ref tr, .int tc, .ref fz, .int nm])), (sl, .inl (cI, 1653, .inl u_1))] := hD
  have c1_0 := hw_1
  have c1_0 : SI u_1 v0 := c1_0
  refine lv_iconst (v := 0) hx hb dX8_again_7 (by decide) ?_
  refine lv_istore_n (lv' := [(2, .int 0), (0, .ref h), (1, .int n)]) hx hb dX8_again_8 rfl hl (by decide) rfl (fun ls hl => ?_)
  have hL9 : ∀ (nf : Nat) (t2_c9 : Int32) (g0_c9 : Nat → Int32) (H : Heap) (locs : List Loc) (ls : Array Slot), (0 ≤ t2_c9.toInt ∧ t2_c9.toInt ≤ 100) → (SI g0_c9 v0) → (n.toInt - t2_c9.toInt).toNat < nf → va_P D kl [(h, .inr (7, [.ref sl, .int na, .ref zs, .ref ln, .ref ir, .ref tk, .int su, .int le, .ref tb, .int fu, .int ap, .int pp, .ref tr, .int tc, .ref fz, .int nm])), (sl, .inl (cI, 1653, .inl g0_c9))] H → va_D A [(h, .inr (7, [.ref sl, .int na, .ref zs, .ref ln, .ref ir, .ref tk, .int su, .int le, .ref tb, .int fu, .int ap, .int pp, .ref tr, .int tc, .ref fz, .int nm])), (sl, .inl (cI, 1653, .inl g0_c9))] → va_S A s.heap H locs → lv_has ls 3 [(2, .int t2_c9), (0, .ref h), (1, .int n)] → W p l e ({ frames := 5, cells := 0, slots := 0, locals := 122 }) s m ([.ref h, .int n] : List Value).toArray below meth c H locs 0 0 (MQ below (va_Qv (fun (u : (Nat → Int32)) => (SI u v0)) (fun u t => wb D A ((fun u => [(h, .inr (7, [.ref sl, .int na, .ref zs, .ref ln, .ref ir, .ref tk, .int su, .int le, .ref tb, .int fu, .int ap, .int pp, .ref tr, .int tc, .ref fz, .int nm])), (sl, .inl (cI, 1653, .inl u))]) u) t) A) ([.ref h, .int n] : List Value).toArray s 0 0 A) (F0 m 9 ls []) := by
    intro nf
    induction nf with
    | zero =>
      intro t2_c9 g0_c9 H locs ls i_t2_c9 ha_g0_c9 hm
      exact absurd hm (Nat.not_lt_zero _)
    | succ nf ih9 =>
      intro t2_c9 g0_c9 H locs ls i_t2_c9 ha_g0_c9 hm9 hP hD hS hl
      refine lv_iload_n hx hb dX8_again_9 rfl (lv_at hl 0 rfl) ?_
      refine lv_iload_n hx hb dX8_again_10 rfl (lv_at hl 2 rfl) ?_
      refine lv_icmp_ge (tgt := 27) hx hb dX8_again_11 (by decide) (fun c_2 => ?_) (fun c_2 => ?_)
      · have f_2 : n.toInt ≤ t2_c9.toInt := zi_le c_2
        exact wr_v hx hb hr hlocks hS g0_c9 (by exact ha_g0_c9) (hP.sub [0, 1] rfl) (hD.sub [0, 1] (by decide) rfl) dX8_again_27
      · have f_2 : ¬ n.toInt ≤ t2_c9.toInt := zi_nle c_2
        refine lv_aload_n hx hb dX8_again_14 rfl (lv_at hl 1 rfl) ?_
        refine lv_bipush (v := 27) hx hb dX8_again_15 (by decide) ?_
        refine lv_iconst (v := (-1)) hx hb dX8_again_17 (by decide) ?_
        have k_3 := (g_X8_day l D cI cB cQ H.size h sl zs ln ir tk tb tr fz na su le fu ap pp tc nm 27 (-1) g0_c9 v0 ha_g0_c9 ⟨by decide, by decide⟩)
        refine wc_v (WC := [(h, .inr (7, [.ref sl, .int na, .ref zs, .ref ln, .ref ir, .ref tk, .int su, .int le, .ref tb, .int fu, .int ap, .int pp, .ref tr, .int tc, .ref fz, .int nm])), (sl, .inl (cI, 1653, .inl g0_c9))]) (WR := []) (va_runV (As := [.int 27, .int (-1)]) (rest := []) ⟨hx, hb, hml, hown, hts⟩ k_3 (cwV 2 hts gX8_again_X8_day rfl rfl rfl (by decide +kernel) ⟨Nat.le_of_ble_eq_true rfl, Nat.le_of_ble_eq_true rfl⟩) (wp_V hP hK hD hN [0, 1] (by decide) rfl (ci := 7) rfl rfl) rfl rfl hl.1 rfl (lv_room (Nat.le_of_ble_eq_true rfl)) dX8_again_18 ⟨Nat.le_of_ble_eq_true rfl, Nat.le_of_ble_eq_true rfl⟩) hP hD hS hA [0, 1] [] rfl rfl (by decide) (by decide) (fun u_3 H locs hw_3 hP hD hS => ?_)
        clear k_3
        have hP : va_P D kl [(h, .inr (7, [.ref sl, .int na, .ref zs, .ref ln, .ref ir, .ref tk, .int su, .int le, .ref tb, .int fu, .int ap, .int pp, .ref tr, .int tc, .ref fz, .int nm])), (sl, .inl (cI, 1653, .inl u_3))] H := hP
        have hD : va_D A [(h, .inr (7, [.ref sl, .int na, .ref zs, .ref ln, .ref ir, .ref tk, .int su, .int le, .ref tb, .int fu, .int ap, .int pp, .ref tr, .int tc, .ref fz, .int nm])), (sl, .inl (cI, 1653, .inl u_3))] := hD
        have c3_0 := hw_3
        have c3_0 : SI u_3 v0 := c3_0
        obtain ⟨x_4, ex_4⟩ : ∃ y : Int32, y = t2_c9 + Int32.ofInt 1 := ⟨_, rfl⟩
        refine lv_iinc (v := x_4) (lv' := [(2, .int x_4), (0, .ref h), (1, .int n)]) hx hb dX8_again_21 hl (k := 0) rfl ex_4.symm (by decide) rfl (fun ls hl => ?_)
        have ex_4 : x_4 = t2_c9 + 1 := ex_4
        have e_4 : x_4.toInt = t2_c9.toInt + 1 := by rw [ex_4]; exact zi_add (rfl) (by decide) (by omega) (by omega)
        clear ex_4
        refine lv_goto (tgt := 9) hx hb dX8_again_24 (by decide) ?_
        exact ih9 x_4 u_3 _ _ _ (show 0 ≤ x_4.toInt ∧ x_4.toInt ≤ 100 from by omega) c3_0 (by omega) (hP.sub [0, 1] rfl) (hD.sub [0, 1] (by decide) rfl) hS (lv_sub hl [0, 1, 2] rfl)
  exact hL9 (((n.toInt - (0 : Int32).toInt).toNat) + 1) 0 u_1 _ _ _ (show 0 ≤ 0 ∧ 0 ≤ 100 from by omega) c1_0 (Nat.lt_succ_self _) (hP.sub [0, 1] rfl) (hD.sub [0, 1] (by decide) rfl) hS (lv_sub hl [0, 1, 2] rfl)
set_option maxHeartbeats 4000000 in
set_option maxRecDepth 100000 in
theorem g_X8_days (l : Launch) (D : va_G) (cI cB cQ : ClassId) (sz : Nat) (h : Nat) (sl : Nat) (zs : Nat) (ln : Nat) (ir : Nat) (tk : Nat) (tb : Nat) (tr : Nat) (fz : Nat) (na : Int32) (su : Int32) (le : Int32) (fu : Int32) (ap : Int32) (pp : Int32) (tc : Int32) (nm : Int32) (n : Int32) (sf : Nat → Int32) (v0 : Int) (hsi : SI sf v0) (h_na : 0 ≤ na.toInt ∧ na.toInt ≤ 24) (h_le : 0 ≤ le.toInt ∧ le.toInt ≤ 120) (h_ap : 0 ≤ ap.toInt ∧ ap.toInt ≤ 120) (h_tc : 0 ≤ tc.toInt ∧ tc.toInt ≤ 16) : mi l yX8_days wsX8_days ({ frames := 5, cells := 0, slots := 0, locals := 122 }) D cI cB cQ [.ref h, .int n] sz [(h, .inr (7, [.ref sl, .int na, .ref zs, .ref ln, .ref ir, .ref tk, .int su, .int le, .ref tb, .int fu, .int ap, .int pp, .ref tr, .int tc, .ref fz, .int nm])), (sl, .inl (cI, 1653, .inl sf))] (fun (r : Int32) (u : (Nat → Int32) × Int32) => (0 ≤ u.2.toInt ∧ u.2.toInt ≤ 24) ∧ (SI u.1 v0)) (fun u => [(h, .inr (7, [.ref sl, .int u.2, .ref zs, .ref ln, .ref ir, .ref tk, .int su, .int le, .ref tb, .int fu, .int ap, .int pp, .ref tr, .int tc, .ref fz, .int nm])), (sl, .inl (cI, 1653, .inl u.1))]) 0 0 := by
  refine wm_i (cc := cX8_days) (maxL := 3) (ret := (some .int)) (by decide) rfl (Nat.le_of_ble_eq_true rfl) ?_
  intro p e s m below meth c A ls hx hb hr hml hown hts hlocks hin hP hK hD hN hA hl hS
  have hown : s.vm.findClass RX8 = some m.cls := hown
  have hl : lv_has ls 3 [(0, .ref h), (1, .int n)] := hl
  change W p l e ({ frames := 5, cells := 0, slots := 0, locals := 122 }) s m ([.ref h, .int n] : List Value).toArray below meth c s.heap [] 0 0 (MQ below (va_Qi (fun (r : Int32) (u : (Nat → Int32) × Int32) => (0 ≤ u.2.toInt ∧ u.2.toInt ≤ 24) ∧ (SI u.1 v0)) (fun u t => wb D A ((fun u => [(h, .inr (7, [.ref sl, .int u.2, .ref zs, .ref ln, .ref ir, .ref tk, .int su, .int le, .ref tb, .int fu, .int ap, .int pp, .ref tr, .int tc, .ref fz, .int nm])), (sl, .inl (cI, 1653, .inl u.1))]) u) t) A) ([.ref h, .int n] : List Value).toArray s 0 0 A) (F0 m 0 ls [])
  refine lv_aload_n hx hb dX8_days_0 rfl (lv_at hl 0 rfl) ?_
  refine va_get (D := D) (ci := 7) (v := .ref sl) (C := RX8) (T := TX8) (N := 16) hx hb hts (fun _ h => List.mem_cons_of_mem _ (List.mem_append_right _ h)) hown hK hP 0 rfl rfl 0 (by decide) (hts (.fieldLink RX8 7 "WinterWalkModel" "slot" "[I") (List.mem_of_getElem? (i := 1) rfl)) (fun _ h9 => h9) rfl dX8_days_1 ?_
  refine lv_iconst (v := 1) hx hb dX8_days_4 (by decide) ?_
  refine va_iald hx hb hK hP 1 0 rfl rfl (zi_in (by decide) (by decide)) dX8_days_5 ?_
  refine lv_topi (fun x_1 ex_1 => ?_)
  have f_1 : 0 ≤ x_1.toInt ∧ x_1.toInt ≤ 8 := by rw [ex_1]; exact si_v hsi (s := 0) (by decide) (by omega)
  have g_1 : x_1.toInt = v0 := by rw [ex_1]; exact hsi.2
  refine lv_if_ne (tgt := 12) hx hb dX8_days_6 (by decide) (fun c_2 => ?_) (fun c_2 => ?_)
  · have f_2 : ¬ x_1.toInt = 0 := zi_ne c_2
    refine lv_iload_n hx hb dX8_days_12 rfl (lv_at hl 1 rfl) ?_
    refine lv_i2l (v := (n.toInt64)) hx hb dX8_days_13 rfl ?_
    refine lv_lconst (v := 1) hx hb dX8_days_14 (by decide) ?_
    refine lv_ldc2 (v := 24) hx hb hown (hts (.constantLong RX8 142 (24)) (List.mem_of_getElem? (i := 3) rfl)) dX8_days_15 ?_
    have k_3 := (g_X8_in l D cI cB cQ s.heap.size (n.toInt64) 1 24)
    refine wc_i (WC := []) (WR := [(h, .inr (7, [.ref sl, .int na, .ref zs, .ref ln, .ref ir, .ref tk, .int su, .int le, .ref tb, .int fu, .int ap, .int pp, .ref tr, .int tc, .ref fz, .int nm])), (sl, .inl (cI, 1653, .inl sf))]) (va_runS (As := [.long (n.toInt64), .long 1, .long 24]) (rest := []) ⟨hx, hb, hml, hown, hts⟩ k_3 (va_cwS 3 hts gX8_days_X8_in rfl rfl rfl (by decide +kernel) ⟨Nat.le_of_ble_eq_true rfl, Nat.le_of_ble_eq_true rfl⟩) (wp_S hP hK hD hN [] (by decide) rfl) rfl rfl hl.1 rfl (lv_room (Nat.le_of_ble_eq_true rfl)) dX8_days_18 ⟨Nat.le_of_ble_eq_true rfl, Nat.le_of_ble_eq_true rfl⟩) hP hD hS hA [] [0, 1] rfl rfl (by decide) (by decide) (fun r_3 u_3 H locs hw_3 hP hD hS => ?_)
    clear k_3
    have hP : va_P D kl [(h, .inr (7, [.ref sl, .int na, .ref zs, .ref ln, .ref ir, .ref tk, .int su, .int le, .ref tb, .int fu, .int ap, .int pp, .ref tr, .int tc, .ref fz, .int nm])), (sl, .inl (cI, 1653, .inl sf))] H := hP
    have hD : va_D A [(h, .inr (7, [.ref sl, .int na, .ref zs, .ref ln, .ref ir, .ref tk, .int su, .int le, .ref tb, .int fu, .int ap, .int pp, .ref tr, .int tc, .ref fz, .int nm])), (sl, .inl (cI, 1653, .inl sf))] := hD
    have c3_0 := hw_3
    rcases c3_0 with ⟨e_3, f_3⟩ | ⟨e_3, f_3⟩
    · subst e_3
      have f_3 : (1 : Int) ≤ n.toInt ∧ n.toInt ≤ (24 : Int) := by
        have h8 := f_3
        try simp only [zl_of] at h8
        exact h8
      refine lv_if_ne (tgt := 27) hx hb dX8_days_21 (by decide) (fun _ => ?_) (fun c9 => absurd c9 (by decide))
      refine lv_aload_n hx hb dX8_days_27 rfl (lv_at hl 0 rfl) ?_
      refine va_get (D := D) (ci := 7) (v := .ref sl) (C := RX8) (T := TX8) (N := 16) hx hb hts (fun _ h => List.mem_cons_of_mem _ (List.mem_append_right _ h)) hown hK hP 0 rfl rfl 0 (by decide) (hts (.fieldLink RX8 7 "WinterWalkModel" "slot" "[I") (List.mem_of_getElem? (i := 1) rfl)) (fun _ h9 => h9) rfl dX8_days_28 ?_
      refine lv_bipush (v := 54) hx hb dX8_days_31 (by decide) ?_
      refine va_iald hx hb hK hP 1 0 rfl rfl (zi_in (by decide) (by decide)) dX8_days_33 ?_
      refine lv_topi (fun x_4 ex_4 => ?_)
      refine lv_iload_n hx hb dX8_days_34 rfl (lv_at hl 1 rfl) ?_
      refine lv_iadd hx hb dX8_days_35 ?_
      refine lv_topi (fun x_5 ex_5 => ?_)
      clear ex_5
      refine lv_sipush (v := 999) hx hb dX8_days_36 (by decide) ?_
      refine lv_icmp_le (tgt := 45) hx hb dX8_days_39 (by decide) (fun c_6 => ?_) (fun c_6 => ?_)
      · have f_6 : x_5.toInt ≤ 999 := zi_le c_6
        refine lv_iconst (v := 0) hx hb dX8_days_45 (by decide) ?_
        refine lv_istore_n (lv' := [(2, .int 0), (0, .ref h), (1, .int n)]) hx hb dX8_days_46 rfl hl (by decide) rfl (fun ls hl => ?_)
        have hL47 : ∀ (nf : Nat) (t2_c47 : Int32) (g0_c47 : Nat → Int32) (g1_c47 : Int32) (H : Heap) (locs : List Loc) (ls : Array Slot), (0 ≤ t2_c47.toInt ∧ t2_c47.toInt ≤ 24) → (SI g0_c47 v0) → (0 ≤ g1_c47.toInt ∧ g1_c47.toInt ≤ 24) → (n.toInt - t2_c47.toInt).toNat < nf → va_P D kl [(h, .inr (7, [.ref sl, .int g1_c47, .ref zs, .ref ln, .ref ir, .ref tk, .int su, .int le, .ref tb, .int fu, .int ap, .int pp, .ref tr, .int tc, .ref fz, .int nm])), (sl, .inl (cI, 1653, .inl g0_c47))] H → va_D A [(h, .inr (7, [.ref sl, .int g1_c47, .ref zs, .ref ln, .ref ir, .ref tk, .int su, .int le, .ref tb, .int fu, .int ap, .int pp, .ref tr, .int tc, .ref fz, .int nm])), (sl, .inl (cI, 1653, .inl g0_c47))] → va_S A s.heap H locs → lv_has ls 3 [(2, .int t2_c47), (0, .ref h), (1, .int n)] → W p l e ({ frames := 5, cells := 0, slots := 0, locals := 122 }) s m ([.ref h, .int n] : List Value).toArray below meth c H locs 0 0 (MQ below (va_Qi (fun (r : Int32) (u : (Nat → Int32) × Int32) => (0 ≤ u.2.toInt ∧ u.2.toInt ≤ 24) ∧ (SI u.1 v0)) (fun u t => wb D A ((fun u => [(h, .inr (7, [.ref sl, .int u.2, .ref zs, .ref ln, .ref ir, .ref tk, .int su, .int le, .ref tb, .int fu, .int ap, .int pp, .ref tr, .int tc, .ref fz, .int nm])), (sl, .inl (cI, 1653, .inl u.1))]) u) t) A) ([.ref h, .int n] : List Value).toArray s 0 0 A) (F0 m 47 ls []) := by
          intro nf
          induction nf with
          | zero =>
            intro t2_c47 g0_c47 g1_c47 H locs ls i_t2_c47 ha_g0_c47 i_g1_c47 hm
            exact absurd hm (Nat.not_lt_zero _)
          | succ nf ih47 =>
            intro t2_c47 g0_c47 g1_c47 H locs ls i_t2_c47 ha_g0_c47 i_g1_c47 hm47 hP hD hS hl
            refine lv_iload_n hx hb dX8_days_47 rfl (lv_at hl 0 rfl) ?_
            refine lv_iload_n hx hb dX8_days_48 rfl (lv_at hl 2 rfl) ?_
            refine lv_icmp_ge (tgt := 68) hx hb dX8_days_49 (by decide) (fun c_7 => ?_) (fun c_7 => ?_)
            · have f_7 : n.toInt ≤ t2_c47.toInt := zi_le c_7
              refine lv_aload_n hx hb dX8_days_68 rfl (lv_at hl 1 rfl) ?_
              refine va_get (D := D) (ci := 7) (v := .ref sl) (C := RX8) (T := TX8) (N := 16) hx hb hts (fun _ h => List.mem_cons_of_mem _ (List.mem_append_right _ h)) hown hK hP 0 rfl rfl 0 (by decide) (hts (.fieldLink RX8 7 "WinterWalkModel" "slot" "[I") (List.mem_of_getElem? (i := 1) rfl)) (fun _ h9 => h9) rfl dX8_days_69 ?_
              refine lv_bipush (v := 55) hx hb dX8_days_72 (by decide) ?_
              refine va_iald hx hb hK hP 1 0 rfl rfl (zi_in (by decide) (by decide)) dX8_days_74 ?_
              refine lv_topi (fun x_8 ex_8 => ?_)
              exact wr_i (v := x_8) hx hb hr hlocks hS (g0_c47, g1_c47) (by exact ⟨show 0 ≤ (g1_c47 : Int32).toInt ∧ (g1_c47 : Int32).toInt ≤ 24 from by omega, ha_g0_c47⟩) (hP.sub [0, 1] rfl) (hD.sub [0, 1] (by decide) rfl) dX8_days_75
            · have f_7 : ¬ n.toInt ≤ t2_c47.toInt := zi_nle c_7
              refine lv_aload_n hx hb dX8_days_52 rfl (lv_at hl 1 rfl) ?_
              have k_9 := (g_X8_known l D cI cB cQ H.size h sl zs ln ir tk tb tr fz g1_c47 su le fu ap pp tc nm g0_c47 v0 ha_g0_c47 (by omega) (by omega) (by omega) (by omega))
              refine wc_v (WC := [(h, .inr (7, [.ref sl, .int g1_c47, .ref zs, .ref ln, .ref ir, .ref tk, .int su, .int le, .ref tb, .int fu, .int ap, .int pp, .ref tr, .int tc, .ref fz, .int nm])), (sl, .inl (cI, 1653, .inl g0_c47))]) (WR := []) (va_runV (As := []) (rest := []) ⟨hx, hb, hml, hown, hts⟩ k_9 (cwV 0 hts gX8_days_X8_known rfl rfl rfl (by decide +kernel) ⟨Nat.le_of_ble_eq_true rfl, Nat.le_of_ble_eq_true rfl⟩) (wp_V hP hK hD hN [0, 1] (by decide) rfl (ci := 7) rfl rfl) rfl rfl hl.1 rfl (lv_room (Nat.le_of_ble_eq_true rfl)) dX8_days_53 ⟨Nat.le_of_ble_eq_true rfl, Nat.le_of_ble_eq_true rfl⟩) hP hD hS hA [0, 1] [] rfl rfl (by decide) (by decide) (pe2 (fun v9_0 v9_1 H locs hw_9 hP hD hS => ?_))
              clear k_9
              have hP : va_P D kl [(h, .inr (7, [.ref sl, .int v9_1, .ref zs, .ref ln, .ref ir, .ref tk, .int su, .int le, .ref tb, .int fu, .int ap, .int pp, .ref tr, .int tc, .ref fz, .int nm])), (sl, .inl (cI, 1653, .inl v9_0))] H := hP
              have hD : va_D A [(h, .inr (7, [.ref sl, .int v9_1, .ref zs, .ref ln, .ref ir, .ref tk, .int su, .int le, .ref tb, .int fu, .int ap, .int pp, .ref tr, .int tc, .ref fz, .int nm])), (sl, .inl (cI, 1653, .inl v9_0))] := hD
              obtain ⟨c9_0, c9_1⟩ := hw_9
              have c9_0 : 0 ≤ v9_1.toInt ∧ v9_1.toInt ≤ 24 := c9_0
              have c9_1 : SI v9_0 v0 := c9_1
              refine lv_aload_n hx hb dX8_days_56 rfl (lv_at hl 1 rfl) ?_
              refine lv_iconst (v := 0) hx hb dX8_days_57 (by decide) ?_
              refine lv_iconst (v := (-1)) hx hb dX8_days_58 (by decide) ?_
              have k_10 := (g_X8_day l D cI cB cQ H.size h sl zs ln ir tk tb tr fz v9_1 su le fu ap pp tc nm 0 (-1) v9_0 v0 c9_1 ⟨by decide, by decide⟩)
              refine wc_v (WC := [(h, .inr (7, [.ref sl, .int v9_1, .ref zs, .ref ln, .ref ir, .ref tk, .int su, .int le, .ref tb, .int fu, .int ap, .int pp, .ref tr, .int tc, .ref fz, .int nm])), (sl, .inl (cI, 1653, .inl v9_0))]) (WR := []) (va_runV (As := [.int 0, .int (-1)]) (rest := []) ⟨hx, hb, hml, hown, hts⟩ k_10 (cwV 2 hts gX8_days_X8_day rfl rfl rfl (by decide +kernel) ⟨Nat.le_of_ble_eq_true rfl, Nat.le_of_ble_eq_true rfl⟩) (wp_V hP hK hD hN [0, 1] (by decide) rfl (ci := 7) rfl rfl) rfl rfl hl.1 rfl (lv_room (Nat.le_of_ble_eq_true rfl)) dX8_days_59 ⟨Nat.le_of_ble_eq_true rfl, Nat.le_of_ble_eq_true rfl⟩) hP hD hS hA [0, 1] [] rfl rfl (by decide) (by decide) (fun u_10 H locs hw_10 hP hD hS => ?_)
              clear k_10
              have hP : va_P D kl [(h, .inr (7, [.ref sl, .int v9_1, .ref zs, .ref ln, .ref ir, .ref tk, .int su, .int le, .ref tb, .int fu, .int ap, .int pp, .ref tr, .int tc, .ref fz, .int nm])), (sl, .inl (cI, 1653, .inl u_10))] H := hP
              have hD : va_D A [(h, .inr (7, [.ref sl, .int v9_1, .ref zs, .ref ln, .ref ir, .ref tk, .int su, .int le, .ref tb, .int fu, .int ap, .int pp, .ref tr, .int tc, .ref fz, .int nm])), (sl, .inl (cI, 1653, .inl u_10))] := hD
              have c10_0 := hw_10
              have c10_0 : SI u_10 v0 := c10_0
              obtain ⟨x_11, ex_11⟩ : ∃ y : Int32, y = t2_c47 + Int32.ofInt 1 := ⟨_, rfl⟩
              refine lv_iinc (v := x_11) (lv' := [(2, .int x_11), (0, .ref h), (1, .int n)]) hx hb dX8_days_62 hl (k := 0) rfl ex_11.symm (by decide) rfl (fun ls hl => ?_)
              have ex_11 : x_11 = t2_c47 + 1 := ex_11
              have e_11 : x_11.toInt = t2_c47.toInt + 1 := by rw [ex_11]; exact zi_add (rfl) (by decide) (by omega) (by omega)
              clear ex_11
              refine lv_goto (tgt := 47) hx hb dX8_days_65 (by decide) ?_
              exact ih47 x_11 u_10 v9_1 _ _ _ (show 0 ≤ x_11.toInt ∧ x_11.toInt ≤ 24 from by omega) c10_0 (show 0 ≤ v9_1.toInt ∧ v9_1.toInt ≤ 24 from by omega) (by omega) (hP.sub [0, 1] rfl) (hD.sub [0, 1] (by decide) rfl) hS (lv_sub hl [0, 1, 2] rfl)
        exact hL47 (((n.toInt - (0 : Int32).toInt).toNat) + 1) 0 sf na _ _ _ (show 0 ≤ 0 ∧ 0 ≤ 24 from by omega) hsi (show 0 ≤ na.toInt ∧ na.toInt ≤ 24 from by omega) (Nat.lt_succ_self _) (hP.sub [0, 1] rfl) (hD.sub [0, 1] (by decide) rfl) hS (lv_sub hl [0, 1, 2] rfl)
      · have f_6 : ¬ x_5.toInt ≤ 999 := zi_nle c_6
        refine lv_ldc (v := (-1000003)) hx hb hown (hts (.constant RX8 61 (-1000003)) (List.mem_of_getElem? (i := 5) rfl)) dX8_days_42 ?_
        exact wr_i (v := (-1000003)) hx hb hr hlocks hS (sf, na) (by exact ⟨show 0 ≤ (na : Int32).toInt ∧ (na : Int32).toInt ≤ 24 from by omega, hsi⟩) (hP.sub [0, 1] rfl) (hD.sub [0, 1] (by decide) rfl) dX8_days_44
    · subst e_3
      have f_3 : ¬ ((1 : Int) ≤ n.toInt ∧ n.toInt ≤ (24 : Int)) := by
        have h8 := f_3
        try simp only [zl_of] at h8
        exact h8
      refine lv_if_ne (tgt := 27) hx hb dX8_days_21 (by decide) (fun c9 => absurd (by decide) c9) (fun _ => ?_)
      refine lv_ldc (v := (-1000001)) hx hb hown (hts (.constant RX8 48 (-1000001)) (List.mem_of_getElem? (i := 4) rfl)) dX8_days_24 ?_
      exact wr_i (v := (-1000001)) hx hb hr hlocks hS (sf, na) (by exact ⟨show 0 ≤ (na : Int32).toInt ∧ (na : Int32).toInt ≤ 24 from by omega, hsi⟩) (hP.sub [0, 1] rfl) (hD.sub [0, 1] (by decide) rfl) dX8_days_26
  · have f_2 : x_1.toInt = 0 := zi_eq c_2
    refine lv_ldc (v := (-1000002)) hx hb hown (hts (.constant RX8 121 (-1000002)) (List.mem_of_getElem? (i := 2) rfl)) dX8_days_9 ?_
    exact wr_i (v := (-1000002)) hx hb hr hlocks hS (sf, na) (by exact ⟨show 0 ≤ (na : Int32).toInt ∧ (na : Int32).toInt ≤ 24 from by omega, hsi⟩) (hP.sub [0, 1] rfl) (hD.sub [0, 1] (by decide) rfl) dX8_days_11
set_option maxHeartbeats 4000000 in
set_option maxRecDepth 100000 in
theorem g_X8_offer (l : Launch) (D : va_G) (cI cB cQ : ClassId) (sz : Nat) (h : Nat) (sl : Nat) (zs : Nat) (ln : Nat) (ir : Nat) (tk : Nat) (tb : Nat) (tr : Nat) (fz : Nat) (na : Int32) (su : Int32) (le : Int32) (fu : Int32) (ap : Int32) (pp : Int32) (tc : Int32) (nm : Int32) (v : Int32) (b : Int32) (sf : Nat → Int32) (v0 : Int) (hsi : SI sf v0) (h_na : 0 ≤ na.toInt ∧ na.toInt ≤ 24) (h_le : 0 ≤ le.toInt ∧ le.toInt ≤ 120) (h_ap : 0 ≤ ap.toInt ∧ ap.toInt ≤ 120) (h_tc : 0 ≤ tc.toInt ∧ tc.toInt ≤ 16) : mi l yX8_offer wsX8_offer ({ frames := 2, cells := 0, slots := 0, locals := 46 }) D cI cB cQ [.ref h, .int v, .int b] sz [(h, .inr (7, [.ref sl, .int na, .ref zs, .ref ln, .ref ir, .ref tk, .int su, .int le, .ref tb, .int fu, .int ap, .int pp, .ref tr, .int tc, .ref fz, .int nm])), (sl, .inl (cI, 1653, .inl sf))] (fun (r : Int32) (u : (Nat → Int32) × Int32) => (0 ≤ u.2.toInt ∧ u.2.toInt ≤ 24) ∧ (SI u.1 v0)) (fun u => [(h, .inr (7, [.ref sl, .int u.2, .ref zs, .ref ln, .ref ir, .ref tk, .int su, .int le, .ref tb, .int fu, .int ap, .int pp, .ref tr, .int tc, .ref fz, .int nm])), (sl, .inl (cI, 1653, .inl u.1))]) 0 0 := by
  refine wm_i (cc := cX8_offer) (maxL := 4) (ret := (some .int)) (by decide) rfl (Nat.le_of_ble_eq_true rfl) ?_
  intro p e s m below meth c A ls hx hb hr hml hown hts hlocks hin hP hK hD hN hA hl hS
  have hown : s.vm.findClass RX8 = some m.cls := hown
  have hl : lv_has ls 4 [(0, .ref h), (1, .int v), (2, .int b)] := hl
  change W p l e ({ frames := 2, cells := 0, slots := 0, locals := 46 }) s m ([.ref h, .int v, .int b] : List Value).toArray below meth c s.heap [] 0 0 (MQ below (va_Qi (fun (r : Int32) (u : (Nat → Int32) × Int32) => (0 ≤ u.2.toInt ∧ u.2.toInt ≤ 24) ∧ (SI u.1 v0)) (fun u t => wb D A ((fun u => [(h, .inr (7, [.ref sl, .int u.2, .ref zs, .ref ln, .ref ir, .ref tk, .int su, .int le, .ref tb, .int fu, .int ap, .int pp, .ref tr, .int tc, .ref fz, .int nm])), (sl, .inl (cI, 1653, .inl u.1))]) u) t) A) ([.ref h, .int v, .int b] : List Value).toArray s 0 0 A) (F0 m 0 ls [])
  refine lv_aload_n hx hb dX8_offer_0 rfl (lv_at hl 0 rfl) ?_
  refine lv_iload_n hx hb dX8_offer_1 rfl (lv_at hl 1 rfl) ?_
  have k_1 := (g_X8_isVillageThere l D cI cB cQ s.heap.size h sl zs ln ir tk tb tr fz na su le fu ap pp tc nm v sf v0 hsi)
  refine wc_i (WC := [(h, .inr (7, [.ref sl, .int na, .ref zs, .ref ln, .ref ir, .ref tk, .int su, .int le, .ref tb, .int fu, .int ap, .int pp, .ref tr, .int tc, .ref fz, .int nm])), (sl, .inl (cI, 1653, .inl sf))]) (WR := []) (va_runV (As := [.int v]) (rest := []) ⟨hx, hb, hml, hown, hts⟩ k_1 (cwV 1 hts gX8_offer_X8_isVillageThere rfl rfl rfl (by decide +kernel) ⟨Nat.le_of_ble_eq_true rfl, Nat.le_of_ble_eq_true rfl⟩) (wp_V hP hK hD hN [0, 1] (by decide) rfl (ci := 7) rfl rfl) rfl rfl hl.1 rfl (lv_room (Nat.le_of_ble_eq_true rfl)) dX8_offer_2 ⟨Nat.le_of_ble_eq_true rfl, Nat.le_of_ble_eq_true rfl⟩) hP hD hS hA [0, 1] [] rfl rfl (by decide) (by decide) (fun r_1 u_1 H locs hw_1 hP hD hS => ?_)
  clear k_1
  have hP : va_P D kl [(h, .inr (7, [.ref sl, .int na, .ref zs, .ref ln, .ref ir, .ref tk, .int su, .int le, .ref tb, .int fu, .int ap, .int pp, .ref tr, .int tc, .ref fz, .int nm])), (sl, .inl (cI, 1653, .inl sf))] H := hP
  have hD : va_D A [(h, .inr (7, [.ref sl, .int na, .ref zs, .ref ln, .ref ir, .ref tk, .int su, .int le, .ref tb, .int fu, .int ap, .int pp, .ref tr, .int tc, .ref fz, .int nm])), (sl, .inl (cI, 1653, .inl sf))] := hD
  have c1_0 := hw_1
  rcases c1_0 with ⟨e_1, f_1⟩ | e_1
  · subst e_1
    have f_1 : 0 ≤ v.toInt ∧ v.toInt ≤ 7 ∧ v.toInt < v0 := f_1
    refine lv_if_eq (tgt := 20) hx hb dX8_offer_5 (by decide) (fun c9 => absurd c9 (by decide)) (fun _ => ?_)
    refine lv_iload_n hx hb dX8_offer_8 rfl (lv_at hl 2 rfl) ?_
    refine lv_i2l (v := (b.toInt64)) hx hb dX8_offer_9 rfl ?_
    refine lv_lconst (v := 0) hx hb dX8_offer_10 (by decide) ?_
    refine lv_ldc2 (v := 20) hx hb hown (hts (.constantLong RX8 150 (20)) (List.mem_of_getElem? (i := 1) rfl)) dX8_offer_11 ?_
    have k_2 := (g_X8_in l D cI cB cQ H.size (b.toInt64) 0 20)
    refine wc_i (WC := []) (WR := [(h, .inr (7, [.ref sl, .int na, .ref zs, .ref ln, .ref ir, .ref tk, .int su, .int le, .ref tb, .int fu, .int ap, .int pp, .ref tr, .int tc, .ref fz, .int nm])), (sl, .inl (cI, 1653, .inl sf))]) (va_runS (As := [.long (b.toInt64), .long 0, .long 20]) (rest := []) ⟨hx, hb, hml, hown, hts⟩ k_2 (va_cwS 3 hts gX8_offer_X8_in rfl rfl rfl (by decide +kernel) ⟨Nat.le_of_ble_eq_true rfl, Nat.le_of_ble_eq_true rfl⟩) (wp_S hP hK hD hN [] (by decide) rfl) rfl rfl hl.1 rfl (lv_room (Nat.le_of_ble_eq_true rfl)) dX8_offer_14 ⟨Nat.le_of_ble_eq_true rfl, Nat.le_of_ble_eq_true rfl⟩) hP hD hS hA [] [0, 1] rfl rfl (by decide) (by decide) (fun r_2 u_2 H locs hw_2 hP hD hS => ?_)
    clear k_2
    have hP : va_P D kl [(h, .inr (7, [.ref sl, .int na, .ref zs, .ref ln, .ref ir, .ref tk, .int su, .int le, .ref tb, .int fu, .int ap, .int pp, .ref tr, .int tc, .ref fz, .int nm])), (sl, .inl (cI, 1653, .inl sf))] H := hP
    have hD : va_D A [(h, .inr (7, [.ref sl, .int na, .ref zs, .ref ln, .ref ir, .ref tk, .int su, .int le, .ref tb, .int fu, .int ap, .int pp, .ref tr, .int tc, .ref fz, .int nm])), (sl, .inl (cI, 1653, .inl sf))] := hD
    have c2_0 := hw_2
    rcases c2_0 with ⟨e_2, f_2⟩ | ⟨e_2, f_2⟩
    · subst e_2
      have f_2 : (0 : Int) ≤ b.toInt ∧ b.toInt ≤ (20 : Int) := by
        have h8 := f_2
        try simp only [zl_of] at h8
        exact h8
      refine lv_if_ne (tgt := 23) hx hb dX8_offer_17 (by decide) (fun _ => ?_) (fun c9 => absurd c9 (by decide))
      refine lv_aload_n hx hb dX8_offer_23 rfl (lv_at hl 0 rfl) ?_
      have k_3 := (g_X8_known l D cI cB cQ H.size h sl zs ln ir tk tb tr fz na su le fu ap pp tc nm sf v0 hsi (by omega) (by omega) (by omega) (by omega))
      refine wc_v (WC := [(h, .inr (7, [.ref sl, .int na, .ref zs, .ref ln, .ref ir, .ref tk, .int su, .int le, .ref tb, .int fu, .int ap, .int pp, .ref tr, .int tc, .ref fz, .int nm])), (sl, .inl (cI, 1653, .inl sf))]) (WR := []) (va_runV (As := []) (rest := []) ⟨hx, hb, hml, hown, hts⟩ k_3 (cwV 0 hts gX8_offer_X8_known rfl rfl rfl (by decide +kernel) ⟨Nat.le_of_ble_eq_true rfl, Nat.le_of_ble_eq_true rfl⟩) (wp_V hP hK hD hN [0, 1] (by decide) rfl (ci := 7) rfl rfl) rfl rfl hl.1 rfl (lv_room (Nat.le_of_ble_eq_true rfl)) dX8_offer_24 ⟨Nat.le_of_ble_eq_true rfl, Nat.le_of_ble_eq_true rfl⟩) hP hD hS hA [0, 1] [] rfl rfl (by decide) (by decide) (pe2 (fun v3_0 v3_1 H locs hw_3 hP hD hS => ?_))
      clear k_3
      have hP : va_P D kl [(h, .inr (7, [.ref sl, .int v3_1, .ref zs, .ref ln, .ref ir, .ref tk, .int su, .int le, .ref tb, .int fu, .int ap, .int pp, .ref tr, .int tc, .ref fz, .int nm])), (sl, .inl (cI, 1653, .inl v3_0))] H := hP
      have hD : va_D A [(h, .inr (7, [.ref sl, .int v3_1, .ref zs, .ref ln, .ref ir, .ref tk, .int su, .int le, .ref tb, .int fu, .int ap, .int pp, .ref tr, .int tc, .ref fz, .int nm])), (sl, .inl (cI, 1653, .inl v3_0))] := hD
      obtain ⟨c3_0, c3_1⟩ := hw_3
      have c3_0 : 0 ≤ v3_1.toInt ∧ v3_1.toInt ≤ 24 := c3_0
      have c3_1 : SI v3_0 v0 := c3_1
      refine lv_aload_n hx hb dX8_offer_27 rfl (lv_at hl 0 rfl) ?_
      refine va_get (D := D) (ci := 7) (v := .ref sl) (C := RX8) (T := TX8) (N := 16) hx hb hts (fun _ h => List.mem_cons_of_mem _ (List.mem_append_right _ h)) hown hK hP 0 rfl rfl 0 (by decide) (hts (.fieldLink RX8 7 "WinterWalkModel" "slot" "[I") (List.mem_of_getElem? (i := 3) rfl)) (fun _ h9 => h9) rfl dX8_offer_28 ?_
      refine lv_bipush (v := 23) hx hb dX8_offer_31 (by decide) ?_
      refine lv_iload_n hx hb dX8_offer_33 rfl (lv_at hl 1 rfl) ?_
      refine lv_iadd hx hb dX8_offer_34 ?_
      refine lv_topi (fun x_4 ex_4 => ?_)
      have e_4 : x_4.toInt = 23 + v.toInt := by rw [ex_4]; exact zi_add (by decide) (rfl) (by omega) (by omega)
      clear ex_4
      refine va_iald hx hb hK hP 1 0 rfl rfl (zi_in (by omega) (by omega)) dX8_offer_35 ?_
      refine lv_topi (fun x_5 ex_5 => ?_)
      clear ex_5
      refine lv_istore_n (lv' := [(3, .int x_5), (0, .ref h), (1, .int v), (2, .int b)]) hx hb dX8_offer_36 rfl hl (by decide) rfl (fun ls hl => ?_)
      refine lv_aload_n hx hb dX8_offer_37 rfl (lv_at hl 1 rfl) ?_
      refine va_get (D := D) (ci := 7) (v := .ref sl) (C := RX8) (T := TX8) (N := 16) hx hb hts (fun _ h => List.mem_cons_of_mem _ (List.mem_append_right _ h)) hown hK hP 0 rfl rfl 0 (by decide) (hts (.fieldLink RX8 7 "WinterWalkModel" "slot" "[I") (List.mem_of_getElem? (i := 3) rfl)) (fun _ h9 => h9) rfl dX8_offer_38 ?_
      refine lv_bipush (v := 23) hx hb dX8_offer_41 (by decide) ?_
      refine lv_iload_n hx hb dX8_offer_43 rfl (lv_at hl 2 rfl) ?_
      refine lv_iadd hx hb dX8_offer_44 ?_
      refine lv_topi (fun x_6 ex_6 => ?_)
      have e_6 : x_6.toInt = 23 + v.toInt := by rw [ex_6]; exact zi_add (by decide) (rfl) (by omega) (by omega)
      clear ex_6
      refine lv_iload_n hx hb dX8_offer_45 rfl (lv_at hl 3 rfl) ?_
      refine va_iast hx hb hK hP hD hS 1 0 rfl rfl (zi_in (by omega) (by omega)) dX8_offer_46 (fun H locs hP hD hS => ?_)
      have hP : va_P D kl [(h, .inr (7, [.ref sl, .int v3_1, .ref zs, .ref ln, .ref ir, .ref tk, .int su, .int le, .ref tb, .int fu, .int ap, .int pp, .ref tr, .int tc, .ref fz, .int nm])), (sl, .inl (cI, 1653, .inl (upd v3_0 (x_6 : Int32).toNatClampNeg b)))] H := hP
      have hD : va_D A [(h, .inr (7, [.ref sl, .int v3_1, .ref zs, .ref ln, .ref ir, .ref tk, .int su, .int le, .ref tb, .int fu, .int ap, .int pp, .ref tr, .int tc, .ref fz, .int nm])), (sl, .inl (cI, 1653, .inl (upd v3_0 (x_6 : Int32).toNatClampNeg b)))] := hD
      have ha_7 : SI (upd v3_0 (x_6 : Int32).toNatClampNeg b) v0 := si_up c3_1 (by omega) (fun s0 a0 b0 e0 => by omega) (fun s0 a0 b0 e0 => by omega) (fun s0 k0 a0 b0 c0 d0 e0 => by omega) (by omega)
      refine lv_iload_n hx hb dX8_offer_47 rfl (lv_at hl 0 rfl) ?_
      exact wr_i (v := x_5) hx hb hr hlocks hS ((upd v3_0 (x_6 : Int32).toNatClampNeg b), v3_1) (by exact ⟨show 0 ≤ (v3_1 : Int32).toInt ∧ (v3_1 : Int32).toInt ≤ 24 from by omega, ha_7⟩) (hP.sub [0, 1] rfl) (hD.sub [0, 1] (by decide) rfl) dX8_offer_48
    · subst e_2
      have f_2 : ¬ ((0 : Int) ≤ b.toInt ∧ b.toInt ≤ (20 : Int)) := by
        have h8 := f_2
        try simp only [zl_of] at h8
        exact h8
      refine lv_if_ne (tgt := 23) hx hb dX8_offer_17 (by decide) (fun c9 => absurd (by decide) c9) (fun _ => ?_)
      refine lv_ldc (v := (-1000001)) hx hb hown (hts (.constant RX8 48 (-1000001)) (List.mem_of_getElem? (i := 2) rfl)) dX8_offer_20 ?_
      exact wr_i (v := (-1000001)) hx hb hr hlocks hS (sf, na) (by exact ⟨show 0 ≤ (na : Int32).toInt ∧ (na : Int32).toInt ≤ 24 from by omega, hsi⟩) (hP.sub [0, 1] rfl) (hD.sub [0, 1] (by decide) rfl) dX8_offer_22
  · subst e_1
    refine lv_if_eq (tgt := 20) hx hb dX8_offer_5 (by decide) (fun _ => ?_) (fun c9 => absurd (by decide) c9)
    refine lv_ldc (v := (-1000001)) hx hb hown (hts (.constant RX8 48 (-1000001)) (List.mem_of_getElem? (i := 2) rfl)) dX8_offer_20 ?_
    exact wr_i (v := (-1000001)) hx hb hr hlocks hS (sf, na) (by exact ⟨show 0 ≤ (na : Int32).toInt ∧ (na : Int32).toInt ≤ 24 from by omega, hsi⟩) (hP.sub [0, 1] rfl) (hD.sub [0, 1] (by decide) rfl) dX8_offer_22
set_option maxHeartbeats 4000000 in
set_option maxRecDepth 100000 in
theorem g_X8_many (l : Launch) (D : va_G) (cI cB cQ : ClassId) (sz : Nat) (k : Int32) : mi l yX8_many wsX8_many ({ frames := 0, cells := 0, slots := 0, locals := 0 }) D cI cB cQ [.int k] sz [] (fun (r : Int32) (_u : Unit) => True) (fun _ => []) 0 0 := by
  refine wm_i (cc := cX8_many) (maxL := 3) (ret := (some .int)) (by decide) rfl (Nat.le_of_ble_eq_true rfl) ?_
  intro p e s m below meth c A ls hx hb hr hml hown hts hlocks hin hP hK hD hN hA hl hS
  have hown : s.vm.findClass RX8 = some m.cls := hown
  have hl : lv_has ls 3 [(0, .int k)] := hl
  change W p l e ({ frames := 0, cells := 0, slots := 0, locals := 0 }) s m ([.int k] : List Value).toArray below meth c s.heap [] 0 0 (MQ below (va_Qi (fun (r : Int32) (_u : Unit) => True) (fun u t => wb D A ((fun _ => []) u) t) A) ([.int k] : List Value).toArray s 0 0 A) (F0 m 0 ls [])
  refine lv_iconst (v := 0) hx hb dX8_many_0 (by decide) ?_
  refine lv_istore_n (lv' := [(1, .int 0), (0, .int k)]) hx hb dX8_many_1 rfl hl (by decide) rfl (fun ls hl => ?_)
  refine lv_iconst (v := 0) hx hb dX8_many_2 (by decide) ?_
  refine lv_istore_n (lv' := [(2, .int 0), (1, .int 0), (0, .int k)]) hx hb dX8_many_3 rfl hl (by decide) rfl (fun ls hl => ?_)
  have hL4 : ∀ (nf : Nat) (t2_c4 : Int32) (t1_c4 : Int32) (H : Heap) (locs : List Loc) (ls : Array Slot), (0 ≤ t2_c4.toInt ∧ t2_c4.toInt ≤ 8) → (8 - t2_c4.toInt).toNat < nf → va_P D kl [] H → va_D A [] → va_S A s.heap H locs → lv_has ls 3 [(2, .int t2_c4), (1, .int t1_c4), (0, .int k)] → W p l e ({ frames := 0, cells := 0, slots := 0, locals := 0 }) s m ([.int k] : List Value).toArray below meth c H locs 0 0 (MQ below (va_Qi (fun (r : Int32) (_u : Unit) => True) (fun u t => wb D A ((fun _ => []) u) t) A) ([.int k] : List Value).toArray s 0 0 A) (F0 m 4 ls []) := by
    intro nf
    induction nf with
    | zero =>
      intro t2_c4 t1_c4 H locs ls i_t2_c4 hm
      exact absurd hm (Nat.not_lt_zero _)
    | succ nf ih4 =>
      intro t2_c4 t1_c4 H locs ls i_t2_c4 hm4 hP hD hS hl
      refine lv_iload_n hx hb dX8_many_4 rfl (lv_at hl 0 rfl) ?_
      refine lv_bipush (v := 8) hx hb dX8_many_5 (by decide) ?_
      refine lv_icmp_ge (tgt := 24) hx hb dX8_many_7 (by decide) (fun c_1 => ?_) (fun c_1 => ?_)
      · have f_1 : 8 ≤ t2_c4.toInt := zi_le c_1
        refine lv_iload_n hx hb dX8_many_24 rfl (lv_at hl 1 rfl) ?_
        exact wr_i (v := t1_c4) hx hb hr hlocks hS () (by trivial) (hP.sub [] rfl) (hD.sub [] (by decide) rfl) dX8_many_25
      · have f_1 : ¬ 8 ≤ t2_c4.toInt := zi_nle c_1
        refine lv_iload_n hx hb dX8_many_10 rfl (lv_at hl 1 rfl) ?_
        refine lv_iload_n hx hb dX8_many_11 rfl (lv_at hl 2 rfl) ?_
        refine lv_iload_n hx hb dX8_many_12 rfl (lv_at hl 0 rfl) ?_
        refine lv_ishr hx hb dX8_many_13 ?_
        refine lv_topi (fun x_2 ex_2 => ?_)
        clear ex_2
        refine lv_iconst (v := 1) hx hb dX8_many_14 (by decide) ?_
        refine lv_iand hx hb dX8_many_15 ?_
        refine lv_topi (fun x_3 ex_3 => ?_)
        clear ex_3
        refine lv_iadd hx hb dX8_many_16 ?_
        refine lv_topi (fun x_4 ex_4 => ?_)
        clear ex_4
        refine lv_istore_n (lv' := [(1, .int x_4), (2, .int t2_c4), (0, .int k)]) hx hb dX8_many_17 rfl hl (by decide) rfl (fun ls hl => ?_)
        obtain ⟨x_5, ex_5⟩ : ∃ y : Int32, y = t2_c4 + Int32.ofInt 1 := ⟨_, rfl⟩
        refine lv_iinc (v := x_5) (lv' := [(2, .int x_5), (1, .int x_4), (0, .int k)]) hx hb dX8_many_18 hl (k := 1) rfl ex_5.symm (by decide) rfl (fun ls hl => ?_)
        have ex_5 : x_5 = t2_c4 + 1 := ex_5
        have e_5 : x_5.toInt = t2_c4.toInt + 1 := by rw [ex_5]; exact zi_add (rfl) (by decide) (by omega) (by omega)
        clear ex_5
        refine lv_goto (tgt := 4) hx hb dX8_many_21 (by decide) ?_
        exact ih4 x_5 x_4 _ _ _ (show 0 ≤ x_5.toInt ∧ x_5.toInt ≤ 8 from by omega) (by omega) (hP.sub [] rfl) (hD.sub [] (by decide) rfl) hS (lv_sub hl [0, 1, 2] rfl)
  exact hL4 (((8 - (0 : Int32).toInt).toNat) + 1) 0 0 _ _ _ (show 0 ≤ 0 ∧ 0 ≤ 8 from by omega) (Nat.lt_succ_self _) (hP.sub [] rfl) (hD.sub [] (by decide) rfl) hS (lv_sub hl [0, 1, 2] rfl)
set_option maxHeartbeats 4000000 in
set_option maxRecDepth 100000 in
theorem g_X8_door (l : Launch) (D : va_G) (cI cB cQ : ClassId) (sz : Nat) (h : Nat) (sl : Nat) (zs : Nat) (ln : Nat) (ir : Nat) (tk : Nat) (tb : Nat) (tr : Nat) (fz : Nat) (na : Int32) (su : Int32) (le : Int32) (fu : Int32) (ap : Int32) (pp : Int32) (tc : Int32) (nm : Int32) (v : Int32) (b : Int32) (sf : Nat → Int32) (v0 : Int) (hsi : SI sf v0) (h_na : 0 ≤ na.toInt ∧ na.toInt ≤ 24) (h_le : 0 ≤ le.toInt ∧ le.toInt ≤ 120) (h_ap : 0 ≤ ap.toInt ∧ ap.toInt ≤ 120) (h_tc : 0 ≤ tc.toInt ∧ tc.toInt ≤ 16) : mi l yX8_door wsX8_door ({ frames := 2, cells := 0, slots := 0, locals := 46 }) D cI cB cQ [.ref h, .int v, .int b] sz [(h, .inr (7, [.ref sl, .int na, .ref zs, .ref ln, .ref ir, .ref tk, .int su, .int le, .ref tb, .int fu, .int ap, .int pp, .ref tr, .int tc, .ref fz, .int nm])), (sl, .inl (cI, 1653, .inl sf))] (fun (r : Int32) (u : (Nat → Int32) × Int32) => (0 ≤ u.2.toInt ∧ u.2.toInt ≤ 24) ∧ (SI u.1 v0)) (fun u => [(h, .inr (7, [.ref sl, .int u.2, .ref zs, .ref ln, .ref ir, .ref tk, .int su, .int le, .ref tb, .int fu, .int ap, .int pp, .ref tr, .int tc, .ref fz, .int nm])), (sl, .inl (cI, 1653, .inl u.1))]) 0 0 := by
  refine wm_i (cc := cX8_door) (maxL := 3) (ret := (some .int)) (by decide) rfl (Nat.le_of_ble_eq_true rfl) ?_
  intro p e s m below meth c A ls hx hb hr hml hown hts hlocks hin hP hK hD hN hA hl hS
  have hown : s.vm.findClass RX8 = some m.cls := hown
  have hl : lv_has ls 3 [(0, .ref h), (1, .int v), (2, .int b)] := hl
  change W p l e ({ frames := 2, cells := 0, slots := 0, locals := 46 }) s m ([.ref h, .int v, .int b] : List Value).toArray below meth c s.heap [] 0 0 (MQ below (va_Qi (fun (r : Int32) (u : (Nat → Int32) × Int32) => (0 ≤ u.2.toInt ∧ u.2.toInt ≤ 24) ∧ (SI u.1 v0)) (fun u t => wb D A ((fun u => [(h, .inr (7, [.ref sl, .int u.2, .ref zs, .ref ln, .ref ir, .ref tk, .int su, .int le, .ref tb, .int fu, .int ap, .int pp, .ref tr, .int tc, .ref fz, .int nm])), (sl, .inl (cI, 1653, .inl u.1))]) u) t) A) ([.ref h, .int v, .int b] : List Value).toArray s 0 0 A) (F0 m 0 ls [])
  refine lv_aload_n hx hb dX8_door_0 rfl (lv_at hl 0 rfl) ?_
  refine lv_iload_n hx hb dX8_door_1 rfl (lv_at hl 1 rfl) ?_
  have k_1 := (g_X8_isVillageThere l D cI cB cQ s.heap.size h sl zs ln ir tk tb tr fz na su le fu ap pp tc nm v sf v0 hsi)
  refine wc_i (WC := [(h, .inr (7, [.ref sl, .int na, .ref zs, .ref ln, .ref ir, .ref tk, .int su, .int le, .ref tb, .int fu, .int ap, .int pp, .ref tr, .int tc, .ref fz, .int nm])), (sl, .inl (cI, 1653, .inl sf))]) (WR := []) (va_runV (As := [.int v]) (rest := []) ⟨hx, hb, hml, hown, hts⟩ k_1 (cwV 1 hts gX8_door_X8_isVillageThere rfl rfl rfl (by decide +kernel) ⟨Nat.le_of_ble_eq_true rfl, Nat.le_of_ble_eq_true rfl⟩) (wp_V hP hK hD hN [0, 1] (by decide) rfl (ci := 7) rfl rfl) rfl rfl hl.1 rfl (lv_room (Nat.le_of_ble_eq_true rfl)) dX8_door_2 ⟨Nat.le_of_ble_eq_true rfl, Nat.le_of_ble_eq_true rfl⟩) hP hD hS hA [0, 1] [] rfl rfl (by decide) (by decide) (fun r_1 u_1 H locs hw_1 hP hD hS => ?_)
  clear k_1
  have hP : va_P D kl [(h, .inr (7, [.ref sl, .int na, .ref zs, .ref ln, .ref ir, .ref tk, .int su, .int le, .ref tb, .int fu, .int ap, .int pp, .ref tr, .int tc, .ref fz, .int nm])), (sl, .inl (cI, 1653, .inl sf))] H := hP
  have hD : va_D A [(h, .inr (7, [.ref sl, .int na, .ref zs, .ref ln, .ref ir, .ref tk, .int su, .int le, .ref tb, .int fu, .int ap, .int pp, .ref tr, .int tc, .ref fz, .int nm])), (sl, .inl (cI, 1653, .inl sf))] := hD
  have c1_0 := hw_1
  rcases c1_0 with ⟨e_1, f_1⟩ | e_1
  · subst e_1
    have f_1 : 0 ≤ v.toInt ∧ v.toInt ≤ 7 ∧ v.toInt < v0 := f_1
    refine lv_if_eq (tgt := 18) hx hb dX8_door_5 (by decide) (fun c9 => absurd c9 (by decide)) (fun _ => ?_)
    refine lv_iload_n hx hb dX8_door_8 rfl (lv_at hl 2 rfl) ?_
    refine lv_i2l (v := (b.toInt64)) hx hb dX8_door_9 rfl ?_
    refine lv_lconst (v := 0) hx hb dX8_door_10 (by decide) ?_
    refine lv_lconst (v := 1) hx hb dX8_door_11 (by decide) ?_
    have k_2 := (g_X8_in l D cI cB cQ H.size (b.toInt64) 0 1)
    refine wc_i (WC := []) (WR := [(h, .inr (7, [.ref sl, .int na, .ref zs, .ref ln, .ref ir, .ref tk, .int su, .int le, .ref tb, .int fu, .int ap, .int pp, .ref tr, .int tc, .ref fz, .int nm])), (sl, .inl (cI, 1653, .inl sf))]) (va_runS (As := [.long (b.toInt64), .long 0, .long 1]) (rest := []) ⟨hx, hb, hml, hown, hts⟩ k_2 (va_cwS 3 hts gX8_door_X8_in rfl rfl rfl (by decide +kernel) ⟨Nat.le_of_ble_eq_true rfl, Nat.le_of_ble_eq_true rfl⟩) (wp_S hP hK hD hN [] (by decide) rfl) rfl rfl hl.1 rfl (lv_room (Nat.le_of_ble_eq_true rfl)) dX8_door_12 ⟨Nat.le_of_ble_eq_true rfl, Nat.le_of_ble_eq_true rfl⟩) hP hD hS hA [] [0, 1] rfl rfl (by decide) (by decide) (fun r_2 u_2 H locs hw_2 hP hD hS => ?_)
    clear k_2
    have hP : va_P D kl [(h, .inr (7, [.ref sl, .int na, .ref zs, .ref ln, .ref ir, .ref tk, .int su, .int le, .ref tb, .int fu, .int ap, .int pp, .ref tr, .int tc, .ref fz, .int nm])), (sl, .inl (cI, 1653, .inl sf))] H := hP
    have hD : va_D A [(h, .inr (7, [.ref sl, .int na, .ref zs, .ref ln, .ref ir, .ref tk, .int su, .int le, .ref tb, .int fu, .int ap, .int pp, .ref tr, .int tc, .ref fz, .int nm])), (sl, .inl (cI, 1653, .inl sf))] := hD
    have c2_0 := hw_2
    rcases c2_0 with ⟨e_2, f_2⟩ | ⟨e_2, f_2⟩
    · subst e_2
      have f_2 : (0 : Int) ≤ b.toInt ∧ b.toInt ≤ (1 : Int) := by
        have h8 := f_2
        try simp only [zl_of] at h8
        exact h8
      refine lv_if_ne (tgt := 21) hx hb dX8_door_15 (by decide) (fun _ => ?_) (fun c9 => absurd c9 (by decide))
      refine lv_aload_n hx hb dX8_door_21 rfl (lv_at hl 0 rfl) ?_
      refine va_get (D := D) (ci := 7) (v := .ref sl) (C := RX8) (T := TX8) (N := 16) hx hb hts (fun _ h => List.mem_cons_of_mem _ (List.mem_append_right _ h)) hown hK hP 0 rfl rfl 0 (by decide) (hts (.fieldLink RX8 7 "WinterWalkModel" "slot" "[I") (List.mem_of_getElem? (i := 2) rfl)) (fun _ h9 => h9) rfl dX8_door_22 ?_
      refine lv_bipush (v := 31) hx hb dX8_door_25 (by decide) ?_
      refine va_iald hx hb hK hP 1 0 rfl rfl (zi_in (by decide) (by decide)) dX8_door_27 ?_
      refine lv_topi (fun x_3 ex_3 => ?_)
      refine lv_iload_n hx hb dX8_door_28 rfl (lv_at hl 1 rfl) ?_
      refine lv_ishr hx hb dX8_door_29 ?_
      refine lv_topi (fun x_4 ex_4 => ?_)
      clear ex_4
      refine lv_iconst (v := 1) hx hb dX8_door_30 (by decide) ?_
      refine lv_iand hx hb dX8_door_31 ?_
      refine lv_topi (fun x_5 ex_5 => ?_)
      clear ex_5
      refine lv_iload_n hx hb dX8_door_32 rfl (lv_at hl 2 rfl) ?_
      refine lv_icmp_ne (tgt := 39) hx hb dX8_door_33 (by decide) (fun c_6 => ?_) (fun c_6 => ?_)
      · have f_6 : ¬ x_5.toInt = b.toInt := zi_ne c_6
        refine lv_aload_n hx hb dX8_door_39 rfl (lv_at hl 0 rfl) ?_
        have k_7 := (g_X8_known l D cI cB cQ H.size h sl zs ln ir tk tb tr fz na su le fu ap pp tc nm sf v0 hsi (by omega) (by omega) (by omega) (by omega))
        refine wc_v (WC := [(h, .inr (7, [.ref sl, .int na, .ref zs, .ref ln, .ref ir, .ref tk, .int su, .int le, .ref tb, .int fu, .int ap, .int pp, .ref tr, .int tc, .ref fz, .int nm])), (sl, .inl (cI, 1653, .inl sf))]) (WR := []) (va_runV (As := []) (rest := []) ⟨hx, hb, hml, hown, hts⟩ k_7 (cwV 0 hts gX8_door_X8_known rfl rfl rfl (by decide +kernel) ⟨Nat.le_of_ble_eq_true rfl, Nat.le_of_ble_eq_true rfl⟩) (wp_V hP hK hD hN [0, 1] (by decide) rfl (ci := 7) rfl rfl) rfl rfl hl.1 rfl (lv_room (Nat.le_of_ble_eq_true rfl)) dX8_door_40 ⟨Nat.le_of_ble_eq_true rfl, Nat.le_of_ble_eq_true rfl⟩) hP hD hS hA [0, 1] [] rfl rfl (by decide) (by decide) (pe2 (fun v7_0 v7_1 H locs hw_7 hP hD hS => ?_))
        clear k_7
        have hP : va_P D kl [(h, .inr (7, [.ref sl, .int v7_1, .ref zs, .ref ln, .ref ir, .ref tk, .int su, .int le, .ref tb, .int fu, .int ap, .int pp, .ref tr, .int tc, .ref fz, .int nm])), (sl, .inl (cI, 1653, .inl v7_0))] H := hP
        have hD : va_D A [(h, .inr (7, [.ref sl, .int v7_1, .ref zs, .ref ln, .ref ir, .ref tk, .int su, .int le, .ref tb, .int fu, .int ap, .int pp, .ref tr, .int tc, .ref fz, .int nm])), (sl, .inl (cI, 1653, .inl v7_0))] := hD
        obtain ⟨c7_0, c7_1⟩ := hw_7
        have c7_0 : 0 ≤ v7_1.toInt ∧ v7_1.toInt ≤ 24 := c7_0
        have c7_1 : SI v7_0 v0 := c7_1
        refine lv_aload_n hx hb dX8_door_43 rfl (lv_at hl 0 rfl) ?_
        refine va_get (D := D) (ci := 7) (v := .ref sl) (C := RX8) (T := TX8) (N := 16) hx hb hts (fun _ h => List.mem_cons_of_mem _ (List.mem_append_right _ h)) hown hK hP 0 rfl rfl 0 (by decide) (hts (.fieldLink RX8 7 "WinterWalkModel" "slot" "[I") (List.mem_of_getElem? (i := 2) rfl)) (fun _ h9 => h9) rfl dX8_door_44 ?_
        refine lv_bipush (v := 31) hx hb dX8_door_47 (by decide) ?_
        refine lv_dup2_11 hx hb dX8_door_49 rfl rfl ?_
        refine va_iald hx hb hK hP 1 0 rfl rfl (zi_in (by decide) (by decide)) dX8_door_50 ?_
        refine lv_topi (fun x_8 ex_8 => ?_)
        refine lv_iconst (v := 1) hx hb dX8_door_51 (by decide) ?_
        refine lv_iload_n hx hb dX8_door_52 rfl (lv_at hl 1 rfl) ?_
        refine lv_ishl hx hb dX8_door_53 ?_
        refine lv_topi (fun x_9 ex_9 => ?_)
        have e_9 : 1 ≤ x_9.toInt ∧ x_9.toInt ≤ 256 := by rw [ex_9]; exact zi_sh (by omega)
        clear ex_9
        refine lv_ixor hx hb dX8_door_54 ?_
        refine lv_topi (fun x_10 ex_10 => ?_)
        clear ex_10
        refine va_iast hx hb hK hP hD hS 1 0 rfl rfl (zi_in (by decide) (by decide)) dX8_door_55 (fun H locs hP hD hS => ?_)
        have hP : va_P D kl [(h, .inr (7, [.ref sl, .int v7_1, .ref zs, .ref ln, .ref ir, .ref tk, .int su, .int le, .ref tb, .int fu, .int ap, .int pp, .ref tr, .int tc, .ref fz, .int nm])), (sl, .inl (cI, 1653, .inl (upd v7_0 (31 : Int32).toNatClampNeg x_10)))] H := hP
        have hD : va_D A [(h, .inr (7, [.ref sl, .int v7_1, .ref zs, .ref ln, .ref ir, .ref tk, .int su, .int le, .ref tb, .int fu, .int ap, .int pp, .ref tr, .int tc, .ref fz, .int nm])), (sl, .inl (cI, 1653, .inl (upd v7_0 (31 : Int32).toNatClampNeg x_10)))] := hD
        have hq_11 : (31 : Int32).toInt = 31 := by decide
        have ha_11 : SI (upd v7_0 (31 : Int32).toNatClampNeg x_10) v0 := si_up c7_1 (by omega) (fun s0 a0 b0 e0 => by omega) (fun s0 a0 b0 e0 => by omega) (fun s0 k0 a0 b0 c0 d0 e0 => by omega) (by omega)
        refine lv_aload_n hx hb dX8_door_56 rfl (lv_at hl 0 rfl) ?_
        refine va_get (D := D) (ci := 7) (v := .ref sl) (C := RX8) (T := TX8) (N := 16) hx hb hts (fun _ h => List.mem_cons_of_mem _ (List.mem_append_right _ h)) hown hK hP 0 rfl rfl 0 (by decide) (hts (.fieldLink RX8 7 "WinterWalkModel" "slot" "[I") (List.mem_of_getElem? (i := 2) rfl)) (fun _ h9 => h9) rfl dX8_door_57 ?_
        refine lv_bipush (v := 31) hx hb dX8_door_60 (by decide) ?_
        refine va_iald hx hb hK hP 1 0 rfl rfl (zi_in (by decide) (by decide)) dX8_door_62 ?_
        refine lv_topi (fun x_12 ex_12 => ?_)
        clear ex_12
        have k_13 := (g_X8_many l D cI cB cQ H.size x_12)
        refine wc_i (WC := []) (WR := [(h, .inr (7, [.ref sl, .int v7_1, .ref zs, .ref ln, .ref ir, .ref tk, .int su, .int le, .ref tb, .int fu, .int ap, .int pp, .ref tr, .int tc, .ref fz, .int nm])), (sl, .inl (cI, 1653, .inl (upd v7_0 (31 : Int32).toNatClampNeg x_10)))]) (va_runS (As := [.int x_12]) (rest := []) ⟨hx, hb, hml, hown, hts⟩ k_13 (va_cwS 1 hts gX8_door_X8_many rfl rfl rfl (by decide +kernel) ⟨Nat.le_of_ble_eq_true rfl, Nat.le_of_ble_eq_true rfl⟩) (wp_S hP hK hD hN [] (by decide) rfl) rfl rfl hl.1 rfl (lv_room (Nat.le_of_ble_eq_true rfl)) dX8_door_63 ⟨Nat.le_of_ble_eq_true rfl, Nat.le_of_ble_eq_true rfl⟩) hP hD hS hA [] [0, 1] rfl rfl (by decide) (by decide) (fun r_13 u_13 H locs hw_13 hP hD hS => ?_)
        clear k_13
        have hP : va_P D kl [(h, .inr (7, [.ref sl, .int v7_1, .ref zs, .ref ln, .ref ir, .ref tk, .int su, .int le, .ref tb, .int fu, .int ap, .int pp, .ref tr, .int tc, .ref fz, .int nm])), (sl, .inl (cI, 1653, .inl (upd v7_0 (31 : Int32).toNatClampNeg x_10)))] H := hP
        have hD : va_D A [(h, .inr (7, [.ref sl, .int v7_1, .ref zs, .ref ln, .ref ir, .ref tk, .int su, .int le, .ref tb, .int fu, .int ap, .int pp, .ref tr, .int tc, .ref fz, .int nm])), (sl, .inl (cI, 1653, .inl (upd v7_0 (31 : Int32).toNatClampNeg x_10)))] := hD
        clear hw_13
        exact wr_i (v := r_13) hx hb hr hlocks hS ((upd v7_0 (31 : Int32).toNatClampNeg x_10), v7_1) (by exact ⟨show 0 ≤ (v7_1 : Int32).toInt ∧ (v7_1 : Int32).toInt ≤ 24 from by omega, ha_11⟩) (hP.sub [0, 1] rfl) (hD.sub [0, 1] (by decide) rfl) dX8_door_66
      · have f_6 : x_5.toInt = b.toInt := zi_eq c_6
        refine lv_ldc (v := (-1000002)) hx hb hown (hts (.constant RX8 121 (-1000002)) (List.mem_of_getElem? (i := 3) rfl)) dX8_door_36 ?_
        exact wr_i (v := (-1000002)) hx hb hr hlocks hS (sf, na) (by exact ⟨show 0 ≤ (na : Int32).toInt ∧ (na : Int32).toInt ≤ 24 from by omega, hsi⟩) (hP.sub [0, 1] rfl) (hD.sub [0, 1] (by decide) rfl) dX8_door_38
    · subst e_2
      have f_2 : ¬ ((0 : Int) ≤ b.toInt ∧ b.toInt ≤ (1 : Int)) := by
        have h8 := f_2
        try simp only [zl_of] at h8
        exact h8
      refine lv_if_ne (tgt := 21) hx hb dX8_door_15 (by decide) (fun c9 => absurd (by decide) c9) (fun _ => ?_)
      refine lv_ldc (v := (-1000001)) hx hb hown (hts (.constant RX8 48 (-1000001)) (List.mem_of_getElem? (i := 1) rfl)) dX8_door_18 ?_
      exact wr_i (v := (-1000001)) hx hb hr hlocks hS (sf, na) (by exact ⟨show 0 ≤ (na : Int32).toInt ∧ (na : Int32).toInt ≤ 24 from by omega, hsi⟩) (hP.sub [0, 1] rfl) (hD.sub [0, 1] (by decide) rfl) dX8_door_20
  · subst e_1
    refine lv_if_eq (tgt := 18) hx hb dX8_door_5 (by decide) (fun _ => ?_) (fun c9 => absurd (by decide) c9)
    refine lv_ldc (v := (-1000001)) hx hb hown (hts (.constant RX8 48 (-1000001)) (List.mem_of_getElem? (i := 1) rfl)) dX8_door_18 ?_
    exact wr_i (v := (-1000001)) hx hb hr hlocks hS (sf, na) (by exact ⟨show 0 ≤ (na : Int32).toInt ∧ (na : Int32).toInt ≤ 24 from by omega, hsi⟩) (hP.sub [0, 1] rfl) (hD.sub [0, 1] (by decide) rfl) dX8_door_20
set_option maxHeartbeats 4000000 in
set_option maxRecDepth 100000 in
theorem g_X8_village (l : Launch) (D : va_G) (cI cB cQ : ClassId) (sz : Nat) (h : Nat) (sl : Nat) (zs : Nat) (ln : Nat) (ir : Nat) (tk : Nat) (tb : Nat) (tr : Nat) (fz : Nat) (na : Int32) (su : Int32) (le : Int32) (fu : Int32) (ap : Int32) (pp : Int32) (tc : Int32) (nm : Int32) (v : Int32) (k : Int32) (sf : Nat → Int32) (v0 : Int) (hsi : SI sf v0) : mi l yX8_village wsX8_village ({ frames := 2, cells := 0, slots := 0, locals := 46 }) D cI cB cQ [.ref h, .int v, .int k] sz [(h, .inr (7, [.ref sl, .int na, .ref zs, .ref ln, .ref ir, .ref tk, .int su, .int le, .ref tb, .int fu, .int ap, .int pp, .ref tr, .int tc, .ref fz, .int nm])), (sl, .inl (cI, 1653, .inl sf))] (fun (r : Int32) (_u : Unit) => True) (fun _ => [(h, .inr (7, [.ref sl, .int na, .ref zs, .ref ln, .ref ir, .ref tk, .int su, .int le, .ref tb, .int fu, .int ap, .int pp, .ref tr, .int tc, .ref fz, .int nm])), (sl, .inl (cI, 1653, .inl sf))]) 0 0 := by
  refine wm_i (cc := cX8_village) (maxL := 3) (ret := (some .int)) (by decide) rfl (Nat.le_of_ble_eq_true rfl) ?_
  intro p e s m below meth c A ls hx hb hr hml hown hts hlocks hin hP hK hD hN hA hl hS
  have hown : s.vm.findClass RX8 = some m.cls := hown
  have hl : lv_has ls 3 [(0, .ref h), (1, .int v), (2, .int k)] := hl
  change W p l e ({ frames := 2, cells := 0, slots := 0, locals := 46 }) s m ([.ref h, .int v, .int k] : List Value).toArray below meth c s.heap [] 0 0 (MQ below (va_Qi (fun (r : Int32) (_u : Unit) => True) (fun u t => wb D A ((fun _ => [(h, .inr (7, [.ref sl, .int na, .ref zs, .ref ln, .ref ir, .ref tk, .int su, .int le, .ref tb, .int fu, .int ap, .int pp, .ref tr, .int tc, .ref fz, .int nm])), (sl, .inl (cI, 1653, .inl sf))]) u) t) A) ([.ref h, .int v, .int k] : List Value).toArray s 0 0 A) (F0 m 0 ls [])
  refine lv_aload_n hx hb dX8_village_0 rfl (lv_at hl 0 rfl) ?_
  refine lv_iload_n hx hb dX8_village_1 rfl (lv_at hl 1 rfl) ?_
  have k_1 := (g_X8_isVillageThere l D cI cB cQ s.heap.size h sl zs ln ir tk tb tr fz na su le fu ap pp tc nm v sf v0 hsi)
  refine wc_i (WC := [(h, .inr (7, [.ref sl, .int na, .ref zs, .ref ln, .ref ir, .ref tk, .int su, .int le, .ref tb, .int fu, .int ap, .int pp, .ref tr, .int tc, .ref fz, .int nm])), (sl, .inl (cI, 1653, .inl sf))]) (WR := []) (va_runV (As := [.int v]) (rest := []) ⟨hx, hb, hml, hown, hts⟩ k_1 (cwV 1 hts gX8_village_X8_isVillageThere rfl rfl rfl (by decide +kernel) ⟨Nat.le_of_ble_eq_true rfl, Nat.le_of_ble_eq_true rfl⟩) (wp_V hP hK hD hN [0, 1] (by decide) rfl (ci := 7) rfl rfl) rfl rfl hl.1 rfl (lv_room (Nat.le_of_ble_eq_true rfl)) dX8_village_2 ⟨Nat.le_of_ble_eq_true rfl, Nat.le_of_ble_eq_true rfl⟩) hP hD hS hA [0, 1] [] rfl rfl (by decide) (by decide) (fun r_1 u_1 H locs hw_1 hP hD hS => ?_)
  clear k_1
  have hP : va_P D kl [(h, .inr (7, [.ref sl, .int na, .ref zs, .ref ln, .ref ir, .ref tk, .int su, .int le, .ref tb, .int fu, .int ap, .int pp, .ref tr, .int tc, .ref fz, .int nm])), (sl, .inl (cI, 1653, .inl sf))] H := hP
  have hD : va_D A [(h, .inr (7, [.ref sl, .int na, .ref zs, .ref ln, .ref ir, .ref tk, .int su, .int le, .ref tb, .int fu, .int ap, .int pp, .ref tr, .int tc, .ref fz, .int nm])), (sl, .inl (cI, 1653, .inl sf))] := hD
  have c1_0 := hw_1
  rcases c1_0 with ⟨e_1, f_1⟩ | e_1
  · subst e_1
    have f_1 : 0 ≤ v.toInt ∧ v.toInt ≤ 7 ∧ v.toInt < v0 := f_1
    refine lv_if_eq (tgt := 20) hx hb dX8_village_5 (by decide) (fun c9 => absurd c9 (by decide)) (fun _ => ?_)
    refine lv_iload_n hx hb dX8_village_8 rfl (lv_at hl 2 rfl) ?_
    refine lv_i2l (v := (k.toInt64)) hx hb dX8_village_9 rfl ?_
    refine lv_lconst (v := 0) hx hb dX8_village_10 (by decide) ?_
    refine lv_ldc2 (v := 5) hx hb hown (hts (.constantLong RX8 155 (5)) (List.mem_of_getElem? (i := 1) rfl)) dX8_village_11 ?_
    have k_2 := (g_X8_in l D cI cB cQ H.size (k.toInt64) 0 5)
    refine wc_i (WC := []) (WR := [(h, .inr (7, [.ref sl, .int na, .ref zs, .ref ln, .ref ir, .ref tk, .int su, .int le, .ref tb, .int fu, .int ap, .int pp, .ref tr, .int tc, .ref fz, .int nm])), (sl, .inl (cI, 1653, .inl sf))]) (va_runS (As := [.long (k.toInt64), .long 0, .long 5]) (rest := []) ⟨hx, hb, hml, hown, hts⟩ k_2 (va_cwS 3 hts gX8_village_X8_in rfl rfl rfl (by decide +kernel) ⟨Nat.le_of_ble_eq_true rfl, Nat.le_of_ble_eq_true rfl⟩) (wp_S hP hK hD hN [] (by decide) rfl) rfl rfl hl.1 rfl (lv_room (Nat.le_of_ble_eq_true rfl)) dX8_village_14 ⟨Nat.le_of_ble_eq_true rfl, Nat.le_of_ble_eq_true rfl⟩) hP hD hS hA [] [0, 1] rfl rfl (by decide) (by decide) (fun r_2 u_2 H locs hw_2 hP hD hS => ?_)
    clear k_2
    have hP : va_P D kl [(h, .inr (7, [.ref sl, .int na, .ref zs, .ref ln, .ref ir, .ref tk, .int su, .int le, .ref tb, .int fu, .int ap, .int pp, .ref tr, .int tc, .ref fz, .int nm])), (sl, .inl (cI, 1653, .inl sf))] H := hP
    have hD : va_D A [(h, .inr (7, [.ref sl, .int na, .ref zs, .ref ln, .ref ir, .ref tk, .int su, .int le, .ref tb, .int fu, .int ap, .int pp, .ref tr, .int tc, .ref fz, .int nm])), (sl, .inl (cI, 1653, .inl sf))] := hD
    have c2_0 := hw_2
    rcases c2_0 with ⟨e_2, f_2⟩ | ⟨e_2, f_2⟩
    · subst e_2
      have f_2 : (0 : Int) ≤ k.toInt ∧ k.toInt ≤ (5 : Int) := by
        have h8 := f_2
        try simp only [zl_of] at h8
        exact h8
      refine lv_if_ne (tgt := 23) hx hb dX8_village_17 (by decide) (fun _ => ?_) (fun c9 => absurd c9 (by decide))
      refine lv_iload_n hx hb dX8_village_23 rfl (lv_at hl 2 rfl) ?_
      by_cases f_3 : k.toInt < 0 ∨ 4 < k.toInt
      · refine lv_tableOut (tgt := 111) hx hb dX8_village_24 f_3 (by decide) ?_
        refine lv_aload_n hx hb dX8_village_111 rfl (lv_at hl 0 rfl) ?_
        refine va_get (D := D) (ci := 7) (v := .ref sl) (C := RX8) (T := TX8) (N := 16) hx hb hts (fun _ h => List.mem_cons_of_mem _ (List.mem_append_right _ h)) hown hK hP 0 rfl rfl 0 (by decide) (hts (.fieldLink RX8 7 "WinterWalkModel" "slot" "[I") (List.mem_of_getElem? (i := 3) rfl)) (fun _ h9 => h9) rfl dX8_village_112 ?_
        refine lv_bipush (v := 12) hx hb dX8_village_115 (by decide) ?_
        refine lv_iload_n hx hb dX8_village_117 rfl (lv_at hl 1 rfl) ?_
        refine lv_iadd hx hb dX8_village_118 ?_
        refine lv_topi (fun x_4 ex_4 => ?_)
        have e_4 : x_4.toInt = 12 + v.toInt := by rw [ex_4]; exact zi_add (by decide) (rfl) (by omega) (by omega)
        clear ex_4
        refine va_iald hx hb hK hP 1 0 rfl rfl (zi_in (by omega) (by omega)) dX8_village_119 ?_
        refine lv_topi (fun x_5 ex_5 => ?_)
        clear ex_5
        exact wr_i (v := x_5) hx hb hr hlocks hS () (by trivial) (hP.sub [0, 1] rfl) (hD.sub [0, 1] (by decide) rfl) dX8_village_120
      · rcases (show k.toInt = 0 ∨ k.toInt = 1 ∨ k.toInt = 2 ∨ k.toInt = 3 ∨ k.toInt = 4 by omega) with g_3 | g_3 | g_3 | g_3 | g_3
        · refine lv_tableIn (off := 36) (tgt := 60) hx hb dX8_village_24 (by omega) (by omega) (by rw [g_3]; rfl) (by decide) ?_
          refine lv_aload_n hx hb dX8_village_60 rfl (lv_at hl 0 rfl) ?_
          refine va_get (D := D) (ci := 7) (v := .ref sl) (C := RX8) (T := TX8) (N := 16) hx hb hts (fun _ h => List.mem_cons_of_mem _ (List.mem_append_right _ h)) hown hK hP 0 rfl rfl 0 (by decide) (hts (.fieldLink RX8 7 "WinterWalkModel" "slot" "[I") (List.mem_of_getElem? (i := 3) rfl)) (fun _ h9 => h9) rfl dX8_village_61 ?_
          refine lv_iconst (v := 4) hx hb dX8_village_64 (by decide) ?_
          refine lv_iload_n hx hb dX8_village_65 rfl (lv_at hl 1 rfl) ?_
          refine lv_iadd hx hb dX8_village_66 ?_
          refine lv_topi (fun x_6 ex_6 => ?_)
          have e_6 : x_6.toInt = 4 + v.toInt := by rw [ex_6]; exact zi_add (by decide) (rfl) (by omega) (by omega)
          clear ex_6
          refine va_iald hx hb hK hP 1 0 rfl rfl (zi_in (by omega) (by omega)) dX8_village_67 ?_
          refine lv_topi (fun x_7 ex_7 => ?_)
          clear ex_7
          exact wr_i (v := x_7) hx hb hr hlocks hS () (by trivial) (hP.sub [0, 1] rfl) (hD.sub [0, 1] (by decide) rfl) dX8_village_68
        · refine lv_tableIn (off := 45) (tgt := 69) hx hb dX8_village_24 (by omega) (by omega) (by rw [g_3]; rfl) (by decide) ?_
          refine lv_aload_n hx hb dX8_village_69 rfl (lv_at hl 0 rfl) ?_
          refine va_get (D := D) (ci := 7) (v := .ref sl) (C := RX8) (T := TX8) (N := 16) hx hb hts (fun _ h => List.mem_cons_of_mem _ (List.mem_append_right _ h)) hown hK hP 0 rfl rfl 0 (by decide) (hts (.fieldLink RX8 7 "WinterWalkModel" "slot" "[I") (List.mem_of_getElem? (i := 3) rfl)) (fun _ h9 => h9) rfl dX8_village_70 ?_
          refine lv_bipush (v := 23) hx hb dX8_village_73 (by decide) ?_
          refine lv_iload_n hx hb dX8_village_75 rfl (lv_at hl 1 rfl) ?_
          refine lv_iadd hx hb dX8_village_76 ?_
          refine lv_topi (fun x_8 ex_8 => ?_)
          have e_8 : x_8.toInt = 23 + v.toInt := by rw [ex_8]; exact zi_add (by decide) (rfl) (by omega) (by omega)
          clear ex_8
          refine va_iald hx hb hK hP 1 0 rfl rfl (zi_in (by omega) (by omega)) dX8_village_77 ?_
          refine lv_topi (fun x_9 ex_9 => ?_)
          clear ex_9
          exact wr_i (v := x_9) hx hb hr hlocks hS () (by trivial) (hP.sub [0, 1] rfl) (hD.sub [0, 1] (by decide) rfl) dX8_village_78
        · refine lv_tableIn (off := 55) (tgt := 79) hx hb dX8_village_24 (by omega) (by omega) (by rw [g_3]; rfl) (by decide) ?_
          refine lv_aload_n hx hb dX8_village_79 rfl (lv_at hl 0 rfl) ?_
          refine va_get (D := D) (ci := 7) (v := .ref sl) (C := RX8) (T := TX8) (N := 16) hx hb hts (fun _ h => List.mem_cons_of_mem _ (List.mem_append_right _ h)) hown hK hP 0 rfl rfl 0 (by decide) (hts (.fieldLink RX8 7 "WinterWalkModel" "slot" "[I") (List.mem_of_getElem? (i := 3) rfl)) (fun _ h9 => h9) rfl dX8_village_80 ?_
          refine lv_bipush (v := 31) hx hb dX8_village_83 (by decide) ?_
          refine va_iald hx hb hK hP 1 0 rfl rfl (zi_in (by decide) (by decide)) dX8_village_85 ?_
          refine lv_topi (fun x_10 ex_10 => ?_)
          refine lv_iload_n hx hb dX8_village_86 rfl (lv_at hl 1 rfl) ?_
          refine lv_ishr hx hb dX8_village_87 ?_
          refine lv_topi (fun x_11 ex_11 => ?_)
          clear ex_11
          refine lv_iconst (v := 1) hx hb dX8_village_88 (by decide) ?_
          refine lv_iand hx hb dX8_village_89 ?_
          refine lv_topi (fun x_12 ex_12 => ?_)
          clear ex_12
          exact wr_i (v := x_12) hx hb hr hlocks hS () (by trivial) (hP.sub [0, 1] rfl) (hD.sub [0, 1] (by decide) rfl) dX8_village_90
        · refine lv_tableIn (off := 67) (tgt := 91) hx hb dX8_village_24 (by omega) (by omega) (by rw [g_3]; rfl) (by decide) ?_
          refine lv_aload_n hx hb dX8_village_91 rfl (lv_at hl 0 rfl) ?_
          refine va_get (D := D) (ci := 7) (v := .ref sl) (C := RX8) (T := TX8) (N := 16) hx hb hts (fun _ h => List.mem_cons_of_mem _ (List.mem_append_right _ h)) hown hK hP 0 rfl rfl 0 (by decide) (hts (.fieldLink RX8 7 "WinterWalkModel" "slot" "[I") (List.mem_of_getElem? (i := 3) rfl)) (fun _ h9 => h9) rfl dX8_village_92 ?_
          refine lv_bipush (v := 32) hx hb dX8_village_95 (by decide) ?_
          refine lv_iload_n hx hb dX8_village_97 rfl (lv_at hl 1 rfl) ?_
          refine lv_iadd hx hb dX8_village_98 ?_
          refine lv_topi (fun x_13 ex_13 => ?_)
          have e_13 : x_13.toInt = 32 + v.toInt := by rw [ex_13]; exact zi_add (by decide) (rfl) (by omega) (by omega)
          clear ex_13
          refine va_iald hx hb hK hP 1 0 rfl rfl (zi_in (by omega) (by omega)) dX8_village_99 ?_
          refine lv_topi (fun x_14 ex_14 => ?_)
          clear ex_14
          exact wr_i (v := x_14) hx hb hr hlocks hS () (by trivial) (hP.sub [0, 1] rfl) (hD.sub [0, 1] (by decide) rfl) dX8_village_100
        · refine lv_tableIn (off := 77) (tgt := 101) hx hb dX8_village_24 (by omega) (by omega) (by rw [g_3]; rfl) (by decide) ?_
          refine lv_aload_n hx hb dX8_village_101 rfl (lv_at hl 0 rfl) ?_
          refine va_get (D := D) (ci := 7) (v := .ref sl) (C := RX8) (T := TX8) (N := 16) hx hb hts (fun _ h => List.mem_cons_of_mem _ (List.mem_append_right _ h)) hown hK hP 0 rfl rfl 0 (by decide) (hts (.fieldLink RX8 7 "WinterWalkModel" "slot" "[I") (List.mem_of_getElem? (i := 3) rfl)) (fun _ h9 => h9) rfl dX8_village_102 ?_
          refine lv_bipush (v := 40) hx hb dX8_village_105 (by decide) ?_
          refine lv_iload_n hx hb dX8_village_107 rfl (lv_at hl 1 rfl) ?_
          refine lv_iadd hx hb dX8_village_108 ?_
          refine lv_topi (fun x_15 ex_15 => ?_)
          have e_15 : x_15.toInt = 40 + v.toInt := by rw [ex_15]; exact zi_add (by decide) (rfl) (by omega) (by omega)
          clear ex_15
          refine va_iald hx hb hK hP 1 0 rfl rfl (zi_in (by omega) (by omega)) dX8_village_109 ?_
          refine lv_topi (fun x_16 ex_16 => ?_)
          clear ex_16
          exact wr_i (v := x_16) hx hb hr hlocks hS () (by trivial) (hP.sub [0, 1] rfl) (hD.sub [0, 1] (by decide) rfl) dX8_village_110
    · subst e_2
      have f_2 : ¬ ((0 : Int) ≤ k.toInt ∧ k.toInt ≤ (5 : Int)) := by
        have h8 := f_2
        try simp only [zl_of] at h8
        exact h8
      refine lv_if_ne (tgt := 23) hx hb dX8_village_17 (by decide) (fun c9 => absurd (by decide) c9) (fun _ => ?_)
      refine lv_ldc (v := (-1000001)) hx hb hown (hts (.constant RX8 48 (-1000001)) (List.mem_of_getElem? (i := 2) rfl)) dX8_village_20 ?_
      exact wr_i (v := (-1000001)) hx hb hr hlocks hS () (by trivial) (hP.sub [0, 1] rfl) (hD.sub [0, 1] (by decide) rfl) dX8_village_22
  · subst e_1
    refine lv_if_eq (tgt := 20) hx hb dX8_village_5 (by decide) (fun _ => ?_) (fun c9 => absurd (by decide) c9)
    refine lv_ldc (v := (-1000001)) hx hb hown (hts (.constant RX8 48 (-1000001)) (List.mem_of_getElem? (i := 2) rfl)) dX8_village_20 ?_
    exact wr_i (v := (-1000001)) hx hb hr hlocks hS () (by trivial) (hP.sub [0, 1] rfl) (hD.sub [0, 1] (by decide) rfl) dX8_village_22
set_option maxHeartbeats 4000000 in
set_option maxRecDepth 100000 in
theorem g_X8_walker (l : Launch) (D : va_G) (cI cB cQ : ClassId) (sz : Nat) (h : Nat) (sl : Nat) (zs : Nat) (ln : Nat) (ir : Nat) (tk : Nat) (tb : Nat) (tr : Nat) (fz : Nat) (na : Int32) (su : Int32) (le : Int32) (fu : Int32) (ap : Int32) (pp : Int32) (tc : Int32) (nm : Int32) (v : Int32) (k : Int32) (sf : Nat → Int32) (v0 : Int) (hsi : SI sf v0) : mi l yX8_walker wsX8_walker ({ frames := 3, cells := 0, slots := 0, locals := 73 }) D cI cB cQ [.ref h, .int v, .int k] sz [(h, .inr (7, [.ref sl, .int na, .ref zs, .ref ln, .ref ir, .ref tk, .int su, .int le, .ref tb, .int fu, .int ap, .int pp, .ref tr, .int tc, .ref fz, .int nm])), (sl, .inl (cI, 1653, .inl sf))] (fun (r : Int32) (_u : Unit) => True) (fun _ => [(h, .inr (7, [.ref sl, .int na, .ref zs, .ref ln, .ref ir, .ref tk, .int su, .int le, .ref tb, .int fu, .int ap, .int pp, .ref tr, .int tc, .ref fz, .int nm])), (sl, .inl (cI, 1653, .inl sf))]) 0 0 := by
  refine wm_i (cc := cX8_walker) (maxL := 3) (ret := (some .int)) (by decide) rfl (Nat.le_of_ble_eq_true rfl) ?_
  intro p e s m below meth c A ls hx hb hr hml hown hts hlocks hin hP hK hD hN hA hl hS
  have hown : s.vm.findClass RX8 = some m.cls := hown
  have hl : lv_has ls 3 [(0, .ref h), (1, .int v), (2, .int k)] := hl
  change W p l e ({ frames := 3, cells := 0, slots := 0, locals := 73 }) s m ([.ref h, .int v, .int k] : List Value).toArray below meth c s.heap [] 0 0 (MQ below (va_Qi (fun (r : Int32) (_u : Unit) => True) (fun u t => wb D A ((fun _ => [(h, .inr (7, [.ref sl, .int na, .ref zs, .ref ln, .ref ir, .ref tk, .int su, .int le, .ref tb, .int fu, .int ap, .int pp, .ref tr, .int tc, .ref fz, .int nm])), (sl, .inl (cI, 1653, .inl sf))]) u) t) A) ([.ref h, .int v, .int k] : List Value).toArray s 0 0 A) (F0 m 0 ls [])
  refine lv_aload_n hx hb dX8_walker_0 rfl (lv_at hl 0 rfl) ?_
  refine lv_iload_n hx hb dX8_walker_1 rfl (lv_at hl 1 rfl) ?_
  have k_1 := (g_X8_isWalkerThere l D cI cB cQ s.heap.size h sl zs ln ir tk tb tr fz na su le fu ap pp tc nm v sf v0 hsi)
  refine wc_i (WC := [(h, .inr (7, [.ref sl, .int na, .ref zs, .ref ln, .ref ir, .ref tk, .int su, .int le, .ref tb, .int fu, .int ap, .int pp, .ref tr, .int tc, .ref fz, .int nm])), (sl, .inl (cI, 1653, .inl sf))]) (WR := []) (va_runV (As := [.int v]) (rest := []) ⟨hx, hb, hml, hown, hts⟩ k_1 (cwV 1 hts gX8_walker_X8_isWalkerThere rfl rfl rfl (by decide +kernel) ⟨Nat.le_of_ble_eq_true rfl, Nat.le_of_ble_eq_true rfl⟩) (wp_V hP hK hD hN [0, 1] (by decide) rfl (ci := 7) rfl rfl) rfl rfl hl.1 rfl (lv_room (Nat.le_of_ble_eq_true rfl)) dX8_walker_2 ⟨Nat.le_of_ble_eq_true rfl, Nat.le_of_ble_eq_true rfl⟩) hP hD hS hA [0, 1] [] rfl rfl (by decide) (by decide) (fun r_1 u_1 H locs hw_1 hP hD hS => ?_)
  clear k_1
  have hP : va_P D kl [(h, .inr (7, [.ref sl, .int na, .ref zs, .ref ln, .ref ir, .ref tk, .int su, .int le, .ref tb, .int fu, .int ap, .int pp, .ref tr, .int tc, .ref fz, .int nm])), (sl, .inl (cI, 1653, .inl sf))] H := hP
  have hD : va_D A [(h, .inr (7, [.ref sl, .int na, .ref zs, .ref ln, .ref ir, .ref tk, .int su, .int le, .ref tb, .int fu, .int ap, .int pp, .ref tr, .int tc, .ref fz, .int nm])), (sl, .inl (cI, 1653, .inl sf))] := hD
  have c1_0 := hw_1
  rcases c1_0 with ⟨e_1, f_1⟩ | e_1
  · subst e_1
    have f_1 : 0 ≤ v.toInt ∧ v.toInt ≤ 2 := f_1
    refine lv_if_eq (tgt := 20) hx hb dX8_walker_5 (by decide) (fun c9 => absurd c9 (by decide)) (fun _ => ?_)
    refine lv_iload_n hx hb dX8_walker_8 rfl (lv_at hl 2 rfl) ?_
    refine lv_i2l (v := (k.toInt64)) hx hb dX8_walker_9 rfl ?_
    refine lv_lconst (v := 0) hx hb dX8_walker_10 (by decide) ?_
    refine lv_ldc2 (v := 2) hx hb hown (hts (.constantLong RX8 46 (2)) (List.mem_of_getElem? (i := 1) rfl)) dX8_walker_11 ?_
    have k_2 := (g_X8_in l D cI cB cQ H.size (k.toInt64) 0 2)
    refine wc_i (WC := []) (WR := [(h, .inr (7, [.ref sl, .int na, .ref zs, .ref ln, .ref ir, .ref tk, .int su, .int le, .ref tb, .int fu, .int ap, .int pp, .ref tr, .int tc, .ref fz, .int nm])), (sl, .inl (cI, 1653, .inl sf))]) (va_runS (As := [.long (k.toInt64), .long 0, .long 2]) (rest := []) ⟨hx, hb, hml, hown, hts⟩ k_2 (va_cwS 3 hts gX8_walker_X8_in rfl rfl rfl (by decide +kernel) ⟨Nat.le_of_ble_eq_true rfl, Nat.le_of_ble_eq_true rfl⟩) (wp_S hP hK hD hN [] (by decide) rfl) rfl rfl hl.1 rfl (lv_room (Nat.le_of_ble_eq_true rfl)) dX8_walker_14 ⟨Nat.le_of_ble_eq_true rfl, Nat.le_of_ble_eq_true rfl⟩) hP hD hS hA [] [0, 1] rfl rfl (by decide) (by decide) (fun r_2 u_2 H locs hw_2 hP hD hS => ?_)
    clear k_2
    have hP : va_P D kl [(h, .inr (7, [.ref sl, .int na, .ref zs, .ref ln, .ref ir, .ref tk, .int su, .int le, .ref tb, .int fu, .int ap, .int pp, .ref tr, .int tc, .ref fz, .int nm])), (sl, .inl (cI, 1653, .inl sf))] H := hP
    have hD : va_D A [(h, .inr (7, [.ref sl, .int na, .ref zs, .ref ln, .ref ir, .ref tk, .int su, .int le, .ref tb, .int fu, .int ap, .int pp, .ref tr, .int tc, .ref fz, .int nm])), (sl, .inl (cI, 1653, .inl sf))] := hD
    have c2_0 := hw_2
    rcases c2_0 with ⟨e_2, f_2⟩ | ⟨e_2, f_2⟩
    · subst e_2
      have f_2 : (0 : Int) ≤ k.toInt ∧ k.toInt ≤ (2 : Int) := by
        have h8 := f_2
        try simp only [zl_of] at h8
        exact h8
      refine lv_if_ne (tgt := 23) hx hb dX8_walker_17 (by decide) (fun _ => ?_) (fun c9 => absurd c9 (by decide))
      refine lv_iload_n hx hb dX8_walker_23 rfl (lv_at hl 2 rfl) ?_
      refine lv_if_ne (tgt := 39) hx hb dX8_walker_24 (by decide) (fun c_3 => ?_) (fun c_3 => ?_)
      · have f_3 : ¬ k.toInt = 0 := zi_ne c_3
        refine lv_iload_n hx hb dX8_walker_39 rfl (lv_at hl 2 rfl) ?_
        refine lv_iconst (v := 1) hx hb dX8_walker_40 (by decide) ?_
        refine lv_icmp_ne (tgt := 56) hx hb dX8_walker_41 (by decide) (fun c_4 => ?_) (fun c_4 => ?_)
        · have f_4 : ¬ k.toInt = 1 := zi_ne c_4
          refine lv_aload_n hx hb dX8_walker_56 rfl (lv_at hl 0 rfl) ?_
          refine lv_iconst (v := 0) hx hb dX8_walker_57 (by decide) ?_
          refine lv_iload_n hx hb dX8_walker_58 rfl (lv_at hl 1 rfl) ?_
          have k_5 := (g_X8_goesTo l D cI cB cQ H.size h sl zs ln ir tk tb tr fz na su le fu ap pp tc nm 0 v sf v0 hsi ⟨by decide, by decide⟩ (by omega))
          refine wc_i (WC := [(h, .inr (7, [.ref sl, .int na, .ref zs, .ref ln, .ref ir, .ref tk, .int su, .int le, .ref tb, .int fu, .int ap, .int pp, .ref tr, .int tc, .ref fz, .int nm])), (sl, .inl (cI, 1653, .inl sf))]) (WR := []) (va_runV (As := [.int 0, .int v]) (rest := []) ⟨hx, hb, hml, hown, hts⟩ k_5 (cwV 2 hts gX8_walker_X8_goesTo rfl rfl rfl (by decide +kernel) ⟨Nat.le_of_ble_eq_true rfl, Nat.le_of_ble_eq_true rfl⟩) (wp_V hP hK hD hN [0, 1] (by decide) rfl (ci := 7) rfl rfl) rfl rfl hl.1 rfl (lv_room (Nat.le_of_ble_eq_true rfl)) dX8_walker_59 ⟨Nat.le_of_ble_eq_true rfl, Nat.le_of_ble_eq_true rfl⟩) hP hD hS hA [0, 1] [] rfl rfl (by decide) (by decide) (fun r_5 u_5 H locs hw_5 hP hD hS => ?_)
          clear k_5
          have hP : va_P D kl [(h, .inr (7, [.ref sl, .int na, .ref zs, .ref ln, .ref ir, .ref tk, .int su, .int le, .ref tb, .int fu, .int ap, .int pp, .ref tr, .int tc, .ref fz, .int nm])), (sl, .inl (cI, 1653, .inl sf))] H := hP
          have hD : va_D A [(h, .inr (7, [.ref sl, .int na, .ref zs, .ref ln, .ref ir, .ref tk, .int su, .int le, .ref tb, .int fu, .int ap, .int pp, .ref tr, .int tc, .ref fz, .int nm])), (sl, .inl (cI, 1653, .inl sf))] := hD
          have c5_0 := hw_5
          have c5_0 : 0 ≤ r_5.toInt ∧ r_5.toInt ≤ 7 := c5_0
          exact wr_i (v := r_5) hx hb hr hlocks hS () (by trivial) (hP.sub [0, 1] rfl) (hD.sub [0, 1] (by decide) rfl) dX8_walker_62
        · have f_4 : k.toInt = 1 := zi_eq c_4
          refine lv_aload_n hx hb dX8_walker_44 rfl (lv_at hl 0 rfl) ?_
          refine va_get (D := D) (ci := 7) (v := .ref sl) (C := RX8) (T := TX8) (N := 16) hx hb hts (fun _ h => List.mem_cons_of_mem _ (List.mem_append_right _ h)) hown hK hP 0 rfl rfl 0 (by decide) (hts (.fieldLink RX8 7 "WinterWalkModel" "slot" "[I") (List.mem_of_getElem? (i := 3) rfl)) (fun _ h9 => h9) rfl dX8_walker_45 ?_
          refine lv_bipush (v := 51) hx hb dX8_walker_48 (by decide) ?_
          refine lv_iload_n hx hb dX8_walker_50 rfl (lv_at hl 1 rfl) ?_
          refine lv_iadd hx hb dX8_walker_51 ?_
          refine lv_topi (fun x_6 ex_6 => ?_)
          have e_6 : x_6.toInt = 51 + v.toInt := by rw [ex_6]; exact zi_add (by decide) (rfl) (by omega) (by omega)
          clear ex_6
          refine va_iald hx hb hK hP 1 0 rfl rfl (zi_in (by omega) (by omega)) dX8_walker_52 ?_
          refine lv_topi (fun x_7 ex_7 => ?_)
          clear ex_7
          refine lv_goto (tgt := 62) hx hb dX8_walker_53 (by decide) ?_
          exact wr_i (v := x_7) hx hb hr hlocks hS () (by trivial) (hP.sub [0, 1] rfl) (hD.sub [0, 1] (by decide) rfl) dX8_walker_62
      · have f_3 : k.toInt = 0 := zi_eq c_3
        refine lv_aload_n hx hb dX8_walker_27 rfl (lv_at hl 0 rfl) ?_
        refine va_get (D := D) (ci := 7) (v := .ref sl) (C := RX8) (T := TX8) (N := 16) hx hb hts (fun _ h => List.mem_cons_of_mem _ (List.mem_append_right _ h)) hown hK hP 0 rfl rfl 0 (by decide) (hts (.fieldLink RX8 7 "WinterWalkModel" "slot" "[I") (List.mem_of_getElem? (i := 3) rfl)) (fun _ h9 => h9) rfl dX8_walker_28 ?_
        refine lv_bipush (v := 48) hx hb dX8_walker_31 (by decide) ?_
        refine lv_iload_n hx hb dX8_walker_33 rfl (lv_at hl 1 rfl) ?_
        refine lv_iadd hx hb dX8_walker_34 ?_
        refine lv_topi (fun x_8 ex_8 => ?_)
        have e_8 : x_8.toInt = 48 + v.toInt := by rw [ex_8]; exact zi_add (by decide) (rfl) (by omega) (by omega)
        clear ex_8
        refine va_iald hx hb hK hP 1 0 rfl rfl (zi_in (by omega) (by omega)) dX8_walker_35 ?_
        refine lv_topi (fun x_9 ex_9 => ?_)
        have f_9 : 0 ≤ x_9.toInt ∧ x_9.toInt ≤ 7 := by rw [ex_9]; exact si_a hsi (s := 0) (k := v.toInt) (by omega) (by omega) (by omega)
        clear ex_9
        refine lv_goto (tgt := 62) hx hb dX8_walker_36 (by decide) ?_
        exact wr_i (v := x_9) hx hb hr hlocks hS () (by trivial) (hP.sub [0, 1] rfl) (hD.sub [0, 1] (by decide) rfl) dX8_walker_62
    · subst e_2
      have f_2 : ¬ ((0 : Int) ≤ k.toInt ∧ k.toInt ≤ (2 : Int)) := by
        have h8 := f_2
        try simp only [zl_of] at h8
        exact h8
      refine lv_if_ne (tgt := 23) hx hb dX8_walker_17 (by decide) (fun c9 => absurd (by decide) c9) (fun _ => ?_)
      refine lv_ldc (v := (-1000001)) hx hb hown (hts (.constant RX8 48 (-1000001)) (List.mem_of_getElem? (i := 2) rfl)) dX8_walker_20 ?_
      exact wr_i (v := (-1000001)) hx hb hr hlocks hS () (by trivial) (hP.sub [0, 1] rfl) (hD.sub [0, 1] (by decide) rfl) dX8_walker_22
  · subst e_1
    refine lv_if_eq (tgt := 20) hx hb dX8_walker_5 (by decide) (fun _ => ?_) (fun c9 => absurd (by decide) c9)
    refine lv_ldc (v := (-1000001)) hx hb hown (hts (.constant RX8 48 (-1000001)) (List.mem_of_getElem? (i := 2) rfl)) dX8_walker_20 ?_
    exact wr_i (v := (-1000001)) hx hb hr hlocks hS () (by trivial) (hP.sub [0, 1] rfl) (hD.sub [0, 1] (by decide) rfl) dX8_walker_22
set_option maxHeartbeats 4000000 in
set_option maxRecDepth 100000 in
theorem g_X8_ahead (l : Launch) (D : va_G) (cI cB cQ : ClassId) (sz : Nat) (h : Nat) (sl : Nat) (zs : Nat) (ln : Nat) (ir : Nat) (tk : Nat) (tb : Nat) (tr : Nat) (fz : Nat) (na : Int32) (su : Int32) (le : Int32) (fu : Int32) (ap : Int32) (pp : Int32) (tc : Int32) (nm : Int32) (v : Int32) (n : Int32) (k : Int32) (sf : Nat → Int32) (v0 : Int) (hsi : SI sf v0) : mi l yX8_ahead wsX8_ahead ({ frames := 6, cells := 0, slots := 0, locals := 144 }) D cI cB cQ [.ref h, .int v, .int n, .int k] sz [(h, .inr (7, [.ref sl, .int na, .ref zs, .ref ln, .ref ir, .ref tk, .int su, .int le, .ref tb, .int fu, .int ap, .int pp, .ref tr, .int tc, .ref fz, .int nm])), (sl, .inl (cI, 1653, .inl sf))] (fun (r : Int32) (u : (Nat → Int32)) => (SI u v0)) (fun u => [(h, .inr (7, [.ref sl, .int na, .ref zs, .ref ln, .ref ir, .ref tk, .int su, .int le, .ref tb, .int fu, .int ap, .int pp, .ref tr, .int tc, .ref fz, .int nm])), (sl, .inl (cI, 1653, .inl u))]) 0 0 := by
  refine wm_i (cc := cX8_ahead) (maxL := 4) (ret := (some .int)) (by decide) rfl (Nat.le_of_ble_eq_true rfl) ?_
  intro p e s m below meth c A ls hx hb hr hml hown hts hlocks hin hP hK hD hN hA hl hS
  have hown : s.vm.findClass RX8 = some m.cls := hown
  have hl : lv_has ls 4 [(0, .ref h), (1, .int v), (2, .int n), (3, .int k)] := hl
  change W p l e ({ frames := 6, cells := 0, slots := 0, locals := 144 }) s m ([.ref h, .int v, .int n, .int k] : List Value).toArray below meth c s.heap [] 0 0 (MQ below (va_Qi (fun (r : Int32) (u : (Nat → Int32)) => (SI u v0)) (fun u t => wb D A ((fun u => [(h, .inr (7, [.ref sl, .int na, .ref zs, .ref ln, .ref ir, .ref tk, .int su, .int le, .ref tb, .int fu, .int ap, .int pp, .ref tr, .int tc, .ref fz, .int nm])), (sl, .inl (cI, 1653, .inl u))]) u) t) A) ([.ref h, .int v, .int n, .int k] : List Value).toArray s 0 0 A) (F0 m 0 ls [])
  refine lv_aload_n hx hb dX8_ahead_0 rfl (lv_at hl 0 rfl) ?_
  refine lv_iload_n hx hb dX8_ahead_1 rfl (lv_at hl 1 rfl) ?_
  have k_1 := (g_X8_isWalkerThere l D cI cB cQ s.heap.size h sl zs ln ir tk tb tr fz na su le fu ap pp tc nm v sf v0 hsi)
  refine wc_i (WC := [(h, .inr (7, [.ref sl, .int na, .ref zs, .ref ln, .ref ir, .ref tk, .int su, .int le, .ref tb, .int fu, .int ap, .int pp, .ref tr, .int tc, .ref fz, .int nm])), (sl, .inl (cI, 1653, .inl sf))]) (WR := []) (va_runV (As := [.int v]) (rest := []) ⟨hx, hb, hml, hown, hts⟩ k_1 (cwV 1 hts gX8_ahead_X8_isWalkerThere rfl rfl rfl (by decide +kernel) ⟨Nat.le_of_ble_eq_true rfl, Nat.le_of_ble_eq_true rfl⟩) (wp_V hP hK hD hN [0, 1] (by decide) rfl (ci := 7) rfl rfl) rfl rfl hl.1 rfl (lv_room (Nat.le_of_ble_eq_true rfl)) dX8_ahead_2 ⟨Nat.le_of_ble_eq_true rfl, Nat.le_of_ble_eq_true rfl⟩) hP hD hS hA [0, 1] [] rfl rfl (by decide) (by decide) (fun r_1 u_1 H locs hw_1 hP hD hS => ?_)
  clear k_1
  have hP : va_P D kl [(h, .inr (7, [.ref sl, .int na, .ref zs, .ref ln, .ref ir, .ref tk, .int su, .int le, .ref tb, .int fu, .int ap, .int pp, .ref tr, .int tc, .ref fz, .int nm])), (sl, .inl (cI, 1653, .inl sf))] H := hP
  have hD : va_D A [(h, .inr (7, [.ref sl, .int na, .ref zs, .ref ln, .ref ir, .ref tk, .int su, .int le, .ref tb, .int fu, .int ap, .int pp, .ref tr, .int tc, .ref fz, .int nm])), (sl, .inl (cI, 1653, .inl sf))] := hD
  have c1_0 := hw_1
  rcases c1_0 with ⟨e_1, f_1⟩ | e_1
  · subst e_1
    have f_1 : 0 ≤ v.toInt ∧ v.toInt ≤ 2 := f_1
    refine lv_if_eq (tgt := 30) hx hb dX8_ahead_5 (by decide) (fun c9 => absurd c9 (by decide)) (fun _ => ?_)
    refine lv_iload_n hx hb dX8_ahead_8 rfl (lv_at hl 2 rfl) ?_
    refine lv_i2l (v := (n.toInt64)) hx hb dX8_ahead_9 rfl ?_
    refine lv_lconst (v := 0) hx hb dX8_ahead_10 (by decide) ?_
    refine lv_ldc2 (v := 100) hx hb hown (hts (.constantLong RX8 160 (100)) (List.mem_of_getElem? (i := 1) rfl)) dX8_ahead_11 ?_
    have k_2 := (g_X8_in l D cI cB cQ H.size (n.toInt64) 0 100)
    refine wc_i (WC := []) (WR := [(h, .inr (7, [.ref sl, .int na, .ref zs, .ref ln, .ref ir, .ref tk, .int su, .int le, .ref tb, .int fu, .int ap, .int pp, .ref tr, .int tc, .ref fz, .int nm])), (sl, .inl (cI, 1653, .inl sf))]) (va_runS (As := [.long (n.toInt64), .long 0, .long 100]) (rest := []) ⟨hx, hb, hml, hown, hts⟩ k_2 (va_cwS 3 hts gX8_ahead_X8_in rfl rfl rfl (by decide +kernel) ⟨Nat.le_of_ble_eq_true rfl, Nat.le_of_ble_eq_true rfl⟩) (wp_S hP hK hD hN [] (by decide) rfl) rfl rfl hl.1 rfl (lv_room (Nat.le_of_ble_eq_true rfl)) dX8_ahead_14 ⟨Nat.le_of_ble_eq_true rfl, Nat.le_of_ble_eq_true rfl⟩) hP hD hS hA [] [0, 1] rfl rfl (by decide) (by decide) (fun r_2 u_2 H locs hw_2 hP hD hS => ?_)
    clear k_2
    have hP : va_P D kl [(h, .inr (7, [.ref sl, .int na, .ref zs, .ref ln, .ref ir, .ref tk, .int su, .int le, .ref tb, .int fu, .int ap, .int pp, .ref tr, .int tc, .ref fz, .int nm])), (sl, .inl (cI, 1653, .inl sf))] H := hP
    have hD : va_D A [(h, .inr (7, [.ref sl, .int na, .ref zs, .ref ln, .ref ir, .ref tk, .int su, .int le, .ref tb, .int fu, .int ap, .int pp, .ref tr, .int tc, .ref fz, .int nm])), (sl, .inl (cI, 1653, .inl sf))] := hD
    have c2_0 := hw_2
    rcases c2_0 with ⟨e_2, f_2⟩ | ⟨e_2, f_2⟩
    · subst e_2
      have f_2 : (0 : Int) ≤ n.toInt ∧ n.toInt ≤ (100 : Int) := by
        have h8 := f_2
        try simp only [zl_of] at h8
        exact h8
      refine lv_if_eq (tgt := 30) hx hb dX8_ahead_17 (by decide) (fun c9 => absurd c9 (by decide)) (fun _ => ?_)
      refine lv_iload_n hx hb dX8_ahead_20 rfl (lv_at hl 3 rfl) ?_
      refine lv_i2l (v := (k.toInt64)) hx hb dX8_ahead_21 rfl ?_
      refine lv_lconst (v := 0) hx hb dX8_ahead_22 (by decide) ?_
      refine lv_lconst (v := 1) hx hb dX8_ahead_23 (by decide) ?_
      have k_3 := (g_X8_in l D cI cB cQ H.size (k.toInt64) 0 1)
      refine wc_i (WC := []) (WR := [(h, .inr (7, [.ref sl, .int na, .ref zs, .ref ln, .ref ir, .ref tk, .int su, .int le, .ref tb, .int fu, .int ap, .int pp, .ref tr, .int tc, .ref fz, .int nm])), (sl, .inl (cI, 1653, .inl sf))]) (va_runS (As := [.long (k.toInt64), .long 0, .long 1]) (rest := []) ⟨hx, hb, hml, hown, hts⟩ k_3 (va_cwS 3 hts gX8_ahead_X8_in rfl rfl rfl (by decide +kernel) ⟨Nat.le_of_ble_eq_true rfl, Nat.le_of_ble_eq_true rfl⟩) (wp_S hP hK hD hN [] (by decide) rfl) rfl rfl hl.1 rfl (lv_room (Nat.le_of_ble_eq_true rfl)) dX8_ahead_24 ⟨Nat.le_of_ble_eq_true rfl, Nat.le_of_ble_eq_true rfl⟩) hP hD hS hA [] [0, 1] rfl rfl (by decide) (by decide) (fun r_3 u_3 H locs hw_3 hP hD hS => ?_)
      clear k_3
      have hP : va_P D kl [(h, .inr (7, [.ref sl, .int na, .ref zs, .ref ln, .ref ir, .ref tk, .int su, .int le, .ref tb, .int fu, .int ap, .int pp, .ref tr, .int tc, .ref fz, .int nm])), (sl, .inl (cI, 1653, .inl sf))] H := hP
      have hD : va_D A [(h, .inr (7, [.ref sl, .int na, .ref zs, .ref ln, .ref ir, .ref tk, .int su, .int le, .ref tb, .int fu, .int ap, .int pp, .ref tr, .int tc, .ref fz, .int nm])), (sl, .inl (cI, 1653, .inl sf))] := hD
      have c3_0 := hw_3
      rcases c3_0 with ⟨e_3, f_3⟩ | ⟨e_3, f_3⟩
      · subst e_3
        have f_3 : (0 : Int) ≤ k.toInt ∧ k.toInt ≤ (1 : Int) := by
          have h8 := f_3
          try simp only [zl_of] at h8
          exact h8
        refine lv_if_ne (tgt := 33) hx hb dX8_ahead_27 (by decide) (fun _ => ?_) (fun c9 => absurd c9 (by decide))
        refine lv_aload_n hx hb dX8_ahead_33 rfl (lv_at hl 0 rfl) ?_
        refine lv_iload_n hx hb dX8_ahead_34 rfl (lv_at hl 2 rfl) ?_
        have k_4 := (g_X8_again l D cI cB cQ H.size h sl zs ln ir tk tb tr fz na su le fu ap pp tc nm n sf v0 hsi (by omega))
        refine wc_v (WC := [(h, .inr (7, [.ref sl, .int na, .ref zs, .ref ln, .ref ir, .ref tk, .int su, .int le, .ref tb, .int fu, .int ap, .int pp, .ref tr, .int tc, .ref fz, .int nm])), (sl, .inl (cI, 1653, .inl sf))]) (WR := []) (va_runV (As := [.int n]) (rest := []) ⟨hx, hb, hml, hown, hts⟩ k_4 (cwV 1 hts gX8_ahead_X8_again rfl rfl rfl (by decide +kernel) ⟨Nat.le_of_ble_eq_true rfl, Nat.le_of_ble_eq_true rfl⟩) (wp_V hP hK hD hN [0, 1] (by decide) rfl (ci := 7) rfl rfl) rfl rfl hl.1 rfl (lv_room (Nat.le_of_ble_eq_true rfl)) dX8_ahead_35 ⟨Nat.le_of_ble_eq_true rfl, Nat.le_of_ble_eq_true rfl⟩) hP hD hS hA [0, 1] [] rfl rfl (by decide) (by decide) (fun u_4 H locs hw_4 hP hD hS => ?_)
        clear k_4
        have hP : va_P D kl [(h, .inr (7, [.ref sl, .int na, .ref zs, .ref ln, .ref ir, .ref tk, .int su, .int le, .ref tb, .int fu, .int ap, .int pp, .ref tr, .int tc, .ref fz, .int nm])), (sl, .inl (cI, 1653, .inl u_4))] H := hP
        have hD : va_D A [(h, .inr (7, [.ref sl, .int na, .ref zs, .ref ln, .ref ir, .ref tk, .int su, .int le, .ref tb, .int fu, .int ap, .int pp, .ref tr, .int tc, .ref fz, .int nm])), (sl, .inl (cI, 1653, .inl u_4))] := hD
        have c4_0 := hw_4
        have c4_0 : SI u_4 v0 := c4_0
        refine lv_aload_n hx hb dX8_ahead_38 rfl (lv_at hl 0 rfl) ?_
        refine va_get (D := D) (ci := 7) (v := .ref sl) (C := RX8) (T := TX8) (N := 16) hx hb hts (fun _ h => List.mem_cons_of_mem _ (List.mem_append_right _ h)) hown hK hP 0 rfl rfl 0 (by decide) (hts (.fieldLink RX8 7 "WinterWalkModel" "slot" "[I") (List.mem_of_getElem? (i := 3) rfl)) (fun _ h9 => h9) rfl dX8_ahead_39 ?_
        refine lv_sipush (v := 1539) hx hb dX8_ahead_42 (by decide) ?_
        refine lv_iload_n hx hb dX8_ahead_45 rfl (lv_at hl 3 rfl) ?_
        refine lv_if_ne (tgt := 54) hx hb dX8_ahead_46 (by decide) (fun c_5 => ?_) (fun c_5 => ?_)
        · have f_5 : ¬ k.toInt = 0 := zi_ne c_5
          refine lv_bipush (v := 51) hx hb dX8_ahead_54 (by decide) ?_
          refine lv_iadd hx hb dX8_ahead_56 ?_
          refine lv_topi (fun x_6 ex_6 => ?_)
          obtain rfl : x_6 = 1590 := ex_6.trans (by decide)
          refine lv_iload_n hx hb dX8_ahead_57 rfl (lv_at hl 1 rfl) ?_
          refine lv_iadd hx hb dX8_ahead_58 ?_
          refine lv_topi (fun x_7 ex_7 => ?_)
          have e_7 : x_7.toInt = 1590 + v.toInt := by rw [ex_7]; exact zi_add (by decide) (rfl) (by omega) (by omega)
          clear ex_7
          refine va_iald hx hb hK hP 1 0 rfl rfl (zi_in (by omega) (by omega)) dX8_ahead_59 ?_
          refine lv_topi (fun x_8 ex_8 => ?_)
          clear ex_8
          exact wr_i (v := x_8) hx hb hr hlocks hS u_4 (by exact c4_0) (hP.sub [0, 1] rfl) (hD.sub [0, 1] (by decide) rfl) dX8_ahead_60
        · have f_5 : k.toInt = 0 := zi_eq c_5
          refine lv_bipush (v := 48) hx hb dX8_ahead_49 (by decide) ?_
          refine lv_goto (tgt := 56) hx hb dX8_ahead_51 (by decide) ?_
          refine lv_iadd hx hb dX8_ahead_56 ?_
          refine lv_topi (fun x_9 ex_9 => ?_)
          obtain rfl : x_9 = 1587 := ex_9.trans (by decide)
          refine lv_iload_n hx hb dX8_ahead_57 rfl (lv_at hl 1 rfl) ?_
          refine lv_iadd hx hb dX8_ahead_58 ?_
          refine lv_topi (fun x_10 ex_10 => ?_)
          have e_10 : x_10.toInt = 1587 + v.toInt := by rw [ex_10]; exact zi_add (by decide) (rfl) (by omega) (by omega)
          clear ex_10
          refine va_iald hx hb hK hP 1 0 rfl rfl (zi_in (by omega) (by omega)) dX8_ahead_59 ?_
          refine lv_topi (fun x_11 ex_11 => ?_)
          have f_11 : 0 ≤ x_11.toInt ∧ x_11.toInt ≤ 7 := by rw [ex_11]; exact si_a c4_0 (s := 27) (k := v.toInt) (by omega) (by omega) (by omega)
          clear ex_11
          exact wr_i (v := x_11) hx hb hr hlocks hS u_4 (by exact c4_0) (hP.sub [0, 1] rfl) (hD.sub [0, 1] (by decide) rfl) dX8_ahead_60
      · subst e_3
        have f_3 : ¬ ((0 : Int) ≤ k.toInt ∧ k.toInt ≤ (1 : Int)) := by
          have h8 := f_3
          try simp only [zl_of] at h8
          exact h8
        refine lv_if_ne (tgt := 33) hx hb dX8_ahead_27 (by decide) (fun c9 => absurd (by decide) c9) (fun _ => ?_)
        refine lv_ldc (v := (-1000001)) hx hb hown (hts (.constant RX8 48 (-1000001)) (List.mem_of_getElem? (i := 2) rfl)) dX8_ahead_30 ?_
        exact wr_i (v := (-1000001)) hx hb hr hlocks hS sf (by exact hsi) (hP.sub [0, 1] rfl) (hD.sub [0, 1] (by decide) rfl) dX8_ahead_32
    · subst e_2
      have f_2 : ¬ ((0 : Int) ≤ n.toInt ∧ n.toInt ≤ (100 : Int)) := by
        have h8 := f_2
        try simp only [zl_of] at h8
        exact h8
      refine lv_if_eq (tgt := 30) hx hb dX8_ahead_17 (by decide) (fun _ => ?_) (fun c9 => absurd (by decide) c9)
      refine lv_ldc (v := (-1000001)) hx hb hown (hts (.constant RX8 48 (-1000001)) (List.mem_of_getElem? (i := 2) rfl)) dX8_ahead_30 ?_
      exact wr_i (v := (-1000001)) hx hb hr hlocks hS sf (by exact hsi) (hP.sub [0, 1] rfl) (hD.sub [0, 1] (by decide) rfl) dX8_ahead_32
  · subst e_1
    refine lv_if_eq (tgt := 30) hx hb dX8_ahead_5 (by decide) (fun _ => ?_) (fun c9 => absurd (by decide) c9)
    refine lv_ldc (v := (-1000001)) hx hb hown (hts (.constant RX8 48 (-1000001)) (List.mem_of_getElem? (i := 2) rfl)) dX8_ahead_30 ?_
    exact wr_i (v := (-1000001)) hx hb hr hlocks hS sf (by exact hsi) (hP.sub [0, 1] rfl) (hD.sub [0, 1] (by decide) rfl) dX8_ahead_32
set_option maxHeartbeats 4000000 in
set_option maxRecDepth 100000 in
theorem g_X8_frozen (l : Launch) (D : va_G) (cI cB cQ : ClassId) (sz : Nat) (h : Nat) (sl : Nat) (zs : Nat) (ln : Nat) (ir : Nat) (tk : Nat) (tb : Nat) (tr : Nat) (fz : Nat) (na : Int32) (su : Int32) (le : Int32) (fu : Int32) (ap : Int32) (pp : Int32) (tc : Int32) (nm : Int32) (k : Int32) (sf : Nat → Int32) (v0 : Int) (hsi : SI sf v0) (h_k : 0 ≤ k.toInt ∧ k.toInt ≤ 28) : mi l yX8_frozen wsX8_frozen ({ frames := 0, cells := 0, slots := 0, locals := 0 }) D cI cB cQ [.ref h, .int k] sz [(h, .inr (7, [.ref sl, .int na, .ref zs, .ref ln, .ref ir, .ref tk, .int su, .int le, .ref tb, .int fu, .int ap, .int pp, .ref tr, .int tc, .ref fz, .int nm])), (sl, .inl (cI, 1653, .inl sf))] (fun (r : Int32) (_u : Unit) => True) (fun _ => [(h, .inr (7, [.ref sl, .int na, .ref zs, .ref ln, .ref ir, .ref tk, .int su, .int le, .ref tb, .int fu, .int ap, .int pp, .ref tr, .int tc, .ref fz, .int nm])), (sl, .inl (cI, 1653, .inl sf))]) 0 0 := by
  refine wm_i (cc := cX8_frozen) (maxL := 4) (ret := (some .int)) (by decide) rfl (Nat.le_of_ble_eq_true rfl) ?_
  intro p e s m below meth c A ls hx hb hr hml hown hts hlocks hin hP hK hD hN hA hl hS
  have hown : s.vm.findClass RX8 = some m.cls := hown
  have hl : lv_has ls 4 [(0, .ref h), (1, .int k)] := hl
  change W p l e ({ frames := 0, cells := 0, slots := 0, locals := 0 }) s m ([.ref h, .int k] : List Value).toArray below meth c s.heap [] 0 0 (MQ below (va_Qi (fun (r : Int32) (_u : Unit) => True) (fun u t => wb D A ((fun _ => [(h, .inr (7, [.ref sl, .int na, .ref zs, .ref ln, .ref ir, .ref tk, .int su, .int le, .ref tb, .int fu, .int ap, .int pp, .ref tr, .int tc, .ref fz, .int nm])), (sl, .inl (cI, 1653, .inl sf))]) u) t) A) ([.ref h, .int k] : List Value).toArray s 0 0 A) (F0 m 0 ls [])
  refine lv_iconst (v := 0) hx hb dX8_frozen_0 (by decide) ?_
  refine lv_istore_n (lv' := [(2, .int 0), (0, .ref h), (1, .int k)]) hx hb dX8_frozen_1 rfl hl (by decide) rfl (fun ls hl => ?_)
  refine lv_iconst (v := 0) hx hb dX8_frozen_2 (by decide) ?_
  refine lv_istore_n (lv' := [(3, .int 0), (2, .int 0), (0, .ref h), (1, .int k)]) hx hb dX8_frozen_3 rfl hl (by decide) rfl (fun ls hl => ?_)
  have hL4 : ∀ (nf : Nat) (t3_c4 : Int32) (t2_c4 : Int32) (H : Heap) (locs : List Loc) (ls : Array Slot), (0 ≤ t3_c4.toInt ∧ t3_c4.toInt ≤ 8) → (8 - t3_c4.toInt).toNat < nf → va_P D kl [(h, .inr (7, [.ref sl, .int na, .ref zs, .ref ln, .ref ir, .ref tk, .int su, .int le, .ref tb, .int fu, .int ap, .int pp, .ref tr, .int tc, .ref fz, .int nm])), (sl, .inl (cI, 1653, .inl sf))] H → va_D A [(h, .inr (7, [.ref sl, .int na, .ref zs, .ref ln, .ref ir, .ref tk, .int su, .int le, .ref tb, .int fu, .int ap, .int pp, .ref tr, .int tc, .ref fz, .int nm])), (sl, .inl (cI, 1653, .inl sf))] → va_S A s.heap H locs → lv_has ls 4 [(3, .int t3_c4), (2, .int t2_c4), (0, .ref h), (1, .int k)] → W p l e ({ frames := 0, cells := 0, slots := 0, locals := 0 }) s m ([.ref h, .int k] : List Value).toArray below meth c H locs 0 0 (MQ below (va_Qi (fun (r : Int32) (_u : Unit) => True) (fun u t => wb D A ((fun _ => [(h, .inr (7, [.ref sl, .int na, .ref zs, .ref ln, .ref ir, .ref tk, .int su, .int le, .ref tb, .int fu, .int ap, .int pp, .ref tr, .int tc, .ref fz, .int nm])), (sl, .inl (cI, 1653, .inl sf))]) u) t) A) ([.ref h, .int k] : List Value).toArray s 0 0 A) (F0 m 4 ls []) := by
    intro nf
    induction nf with
    | zero =>
      intro t3_c4 t2_c4 H locs ls i_t3_c4 hm
      exact absurd hm (Nat.not_lt_zero _)
    | succ nf ih4 =>
      intro t3_c4 t2_c4 H locs ls i_t3_c4 hm4 hP hD hS hl
      refine lv_iload_n hx hb dX8_frozen_4 rfl (lv_at hl 0 rfl) ?_
      refine lv_bipush (v := 8) hx hb dX8_frozen_5 (by decide) ?_
      refine lv_icmp_ge (tgt := 43) hx hb dX8_frozen_7 (by decide) (fun c_1 => ?_) (fun c_1 => ?_)
      · have f_1 : 8 ≤ t3_c4.toInt := zi_le c_1
        refine lv_iload_n hx hb dX8_frozen_43 rfl (lv_at hl 1 rfl) ?_
        exact wr_i (v := t2_c4) hx hb hr hlocks hS () (by trivial) (hP.sub [0, 1] rfl) (hD.sub [0, 1] (by decide) rfl) dX8_frozen_44
      · have f_1 : ¬ 8 ≤ t3_c4.toInt := zi_nle c_1
        refine lv_iload_n hx hb dX8_frozen_10 rfl (lv_at hl 1 rfl) ?_
        refine lv_aload_n hx hb dX8_frozen_11 rfl (lv_at hl 2 rfl) ?_
        refine va_get (D := D) (ci := 7) (v := .ref sl) (C := RX8) (T := TX8) (N := 16) hx hb hts (fun _ h => List.mem_cons_of_mem _ (List.mem_append_right _ h)) hown hK hP 0 rfl rfl 0 (by decide) (hts (.fieldLink RX8 7 "WinterWalkModel" "slot" "[I") (List.mem_of_getElem? (i := 1) rfl)) (fun _ h9 => h9) rfl dX8_frozen_12 ?_
        refine lv_iload_n hx hb dX8_frozen_15 rfl (lv_at hl 3 rfl) ?_
        refine lv_bipush (v := 57) hx hb dX8_frozen_16 (by decide) ?_
        refine lv_imul hx hb dX8_frozen_18 ?_
        refine lv_topi (fun x_2 ex_2 => ?_)
        have e_2 : x_2.toInt = k.toInt * 57 := by rw [ex_2]; exact zi_mul (rfl) (by decide) (by omega) (by omega)
        clear ex_2
        refine lv_bipush (v := 32) hx hb dX8_frozen_19 (by decide) ?_
        refine lv_iadd hx hb dX8_frozen_21 ?_
        refine lv_topi (fun x_3 ex_3 => ?_)
        have e_3 : x_3.toInt = x_2.toInt + 32 := by rw [ex_3]; exact zi_add (rfl) (by decide) (by omega) (by omega)
        clear ex_3
        refine lv_iload_n hx hb dX8_frozen_22 rfl (lv_at hl 0 rfl) ?_
        refine lv_iadd hx hb dX8_frozen_23 ?_
        refine lv_topi (fun x_4 ex_4 => ?_)
        have e_4 : x_4.toInt = x_3.toInt + t3_c4.toInt := by rw [ex_4]; exact zi_add (rfl) (rfl) (by omega) (by omega)
        clear ex_4
        refine va_iald hx hb hK hP 1 0 rfl rfl (zi_in (by omega) (by omega)) dX8_frozen_24 ?_
        refine lv_topi (fun x_5 ex_5 => ?_)
        clear ex_5
        refine lv_if_le (tgt := 34) hx hb dX8_frozen_25 (by decide) (fun c_6 => ?_) (fun c_6 => ?_)
        · have f_6 : x_5.toInt ≤ 0 := zi_le c_6
          refine lv_iconst (v := 0) hx hb dX8_frozen_34 (by decide) ?_
          refine lv_ior hx hb dX8_frozen_35 ?_
          refine lv_topi (fun x_7 ex_7 => ?_)
          clear ex_7
          refine lv_istore_n (lv' := [(2, .int x_7), (3, .int t3_c4), (0, .ref h), (1, .int k)]) hx hb dX8_frozen_36 rfl hl (by decide) rfl (fun ls hl => ?_)
          obtain ⟨x_8, ex_8⟩ : ∃ y : Int32, y = t3_c4 + Int32.ofInt 1 := ⟨_, rfl⟩
          refine lv_iinc (v := x_8) (lv' := [(3, .int x_8), (2, .int x_7), (0, .ref h), (1, .int k)]) hx hb dX8_frozen_37 hl (k := 1) rfl ex_8.symm (by decide) rfl (fun ls hl => ?_)
          have ex_8 : x_8 = t3_c4 + 1 := ex_8
          have e_8 : x_8.toInt = t3_c4.toInt + 1 := by rw [ex_8]; exact zi_add (rfl) (by decide) (by omega) (by omega)
          clear ex_8
          refine lv_goto (tgt := 4) hx hb dX8_frozen_40 (by decide) ?_
          exact ih4 x_8 x_7 _ _ _ (show 0 ≤ x_8.toInt ∧ x_8.toInt ≤ 8 from by omega) (by omega) (hP.sub [0, 1] rfl) (hD.sub [0, 1] (by decide) rfl) hS (lv_sub hl [0, 1, 2, 3] rfl)
        · have f_6 : ¬ x_5.toInt ≤ 0 := zi_nle c_6
          refine lv_iconst (v := 1) hx hb dX8_frozen_28 (by decide) ?_
          refine lv_iload_n hx hb dX8_frozen_29 rfl (lv_at hl 0 rfl) ?_
          refine lv_ishl hx hb dX8_frozen_30 ?_
          refine lv_topi (fun x_9 ex_9 => ?_)
          have e_9 : 1 ≤ x_9.toInt ∧ x_9.toInt ≤ 256 := by rw [ex_9]; exact zi_sh (by omega)
          clear ex_9
          refine lv_goto (tgt := 35) hx hb dX8_frozen_31 (by decide) ?_
          refine lv_ior hx hb dX8_frozen_35 ?_
          refine lv_topi (fun x_10 ex_10 => ?_)
          clear ex_10
          refine lv_istore_n (lv' := [(2, .int x_10), (3, .int t3_c4), (0, .ref h), (1, .int k)]) hx hb dX8_frozen_36 rfl hl (by decide) rfl (fun ls hl => ?_)
          obtain ⟨x_11, ex_11⟩ : ∃ y : Int32, y = t3_c4 + Int32.ofInt 1 := ⟨_, rfl⟩
          refine lv_iinc (v := x_11) (lv' := [(3, .int x_11), (2, .int x_10), (0, .ref h), (1, .int k)]) hx hb dX8_frozen_37 hl (k := 1) rfl ex_11.symm (by decide) rfl (fun ls hl => ?_)
          have ex_11 : x_11 = t3_c4 + 1 := ex_11
          have e_11 : x_11.toInt = t3_c4.toInt + 1 := by rw [ex_11]; exact zi_add (rfl) (by decide) (by omega) (by omega)
          clear ex_11
          refine lv_goto (tgt := 4) hx hb dX8_frozen_40 (by decide) ?_
          exact ih4 x_11 x_10 _ _ _ (show 0 ≤ x_11.toInt ∧ x_11.toInt ≤ 8 from by omega) (by omega) (hP.sub [0, 1] rfl) (hD.sub [0, 1] (by decide) rfl) hS (lv_sub hl [0, 1, 2, 3] rfl)
  exact hL4 (((8 - (0 : Int32).toInt).toNat) + 1) 0 0 _ _ _ (show 0 ≤ 0 ∧ 0 ≤ 8 from by omega) (Nat.lt_succ_self _) (hP.sub [0, 1] rfl) (hD.sub [0, 1] (by decide) rfl) hS (lv_sub hl [0, 1, 2, 3] rfl)
set_option maxHeartbeats 4000000 in
set_option maxRecDepth 100000 in
theorem g_X8_cold (l : Launch) (D : va_G) (cI cB cQ : ClassId) (sz : Nat) (h : Nat) (sl : Nat) (zs : Nat) (ln : Nat) (ir : Nat) (tk : Nat) (tb : Nat) (tr : Nat) (fz : Nat) (na : Int32) (su : Int32) (le : Int32) (fu : Int32) (ap : Int32) (pp : Int32) (tc : Int32) (nm : Int32) (n : Int32) (k : Int32) (sf : Nat → Int32) (v0 : Int) (hsi : SI sf v0) : mi l yX8_cold wsX8_cold ({ frames := 6, cells := 0, slots := 0, locals := 144 }) D cI cB cQ [.ref h, .int n, .int k] sz [(h, .inr (7, [.ref sl, .int na, .ref zs, .ref ln, .ref ir, .ref tk, .int su, .int le, .ref tb, .int fu, .int ap, .int pp, .ref tr, .int tc, .ref fz, .int nm])), (sl, .inl (cI, 1653, .inl sf))] (fun (r : Int32) (u : (Nat → Int32)) => (SI u v0)) (fun u => [(h, .inr (7, [.ref sl, .int na, .ref zs, .ref ln, .ref ir, .ref tk, .int su, .int le, .ref tb, .int fu, .int ap, .int pp, .ref tr, .int tc, .ref fz, .int nm])), (sl, .inl (cI, 1653, .inl u))]) 0 0 := by
  refine wm_i (cc := cX8_cold) (maxL := 3) (ret := (some .int)) (by decide) rfl (Nat.le_of_ble_eq_true rfl) ?_
  intro p e s m below meth c A ls hx hb hr hml hown hts hlocks hin hP hK hD hN hA hl hS
  have hown : s.vm.findClass RX8 = some m.cls := hown
  have hl : lv_has ls 3 [(0, .ref h), (1, .int n), (2, .int k)] := hl
  change W p l e ({ frames := 6, cells := 0, slots := 0, locals := 144 }) s m ([.ref h, .int n, .int k] : List Value).toArray below meth c s.heap [] 0 0 (MQ below (va_Qi (fun (r : Int32) (u : (Nat → Int32)) => (SI u v0)) (fun u t => wb D A ((fun u => [(h, .inr (7, [.ref sl, .int na, .ref zs, .ref ln, .ref ir, .ref tk, .int su, .int le, .ref tb, .int fu, .int ap, .int pp, .ref tr, .int tc, .ref fz, .int nm])), (sl, .inl (cI, 1653, .inl u))]) u) t) A) ([.ref h, .int n, .int k] : List Value).toArray s 0 0 A) (F0 m 0 ls [])
  refine lv_aload_n hx hb dX8_cold_0 rfl (lv_at hl 0 rfl) ?_
  refine va_get (D := D) (ci := 7) (v := .ref sl) (C := RX8) (T := TX8) (N := 16) hx hb hts (fun _ h => List.mem_cons_of_mem _ (List.mem_append_right _ h)) hown hK hP 0 rfl rfl 0 (by decide) (hts (.fieldLink RX8 7 "WinterWalkModel" "slot" "[I") (List.mem_of_getElem? (i := 1) rfl)) (fun _ h9 => h9) rfl dX8_cold_1 ?_
  refine lv_iconst (v := 1) hx hb dX8_cold_4 (by decide) ?_
  refine va_iald hx hb hK hP 1 0 rfl rfl (zi_in (by decide) (by decide)) dX8_cold_5 ?_
  refine lv_topi (fun x_1 ex_1 => ?_)
  have f_1 : 0 ≤ x_1.toInt ∧ x_1.toInt ≤ 8 := by rw [ex_1]; exact si_v hsi (s := 0) (by decide) (by omega)
  have g_1 : x_1.toInt = v0 := by rw [ex_1]; exact hsi.2
  refine lv_if_ne (tgt := 12) hx hb dX8_cold_6 (by decide) (fun c_2 => ?_) (fun c_2 => ?_)
  · have f_2 : ¬ x_1.toInt = 0 := zi_ne c_2
    refine lv_iload_n hx hb dX8_cold_12 rfl (lv_at hl 1 rfl) ?_
    refine lv_i2l (v := (n.toInt64)) hx hb dX8_cold_13 rfl ?_
    refine lv_lconst (v := 0) hx hb dX8_cold_14 (by decide) ?_
    refine lv_ldc2 (v := 100) hx hb hown (hts (.constantLong RX8 160 (100)) (List.mem_of_getElem? (i := 3) rfl)) dX8_cold_15 ?_
    have k_3 := (g_X8_in l D cI cB cQ s.heap.size (n.toInt64) 0 100)
    refine wc_i (WC := []) (WR := [(h, .inr (7, [.ref sl, .int na, .ref zs, .ref ln, .ref ir, .ref tk, .int su, .int le, .ref tb, .int fu, .int ap, .int pp, .ref tr, .int tc, .ref fz, .int nm])), (sl, .inl (cI, 1653, .inl sf))]) (va_runS (As := [.long (n.toInt64), .long 0, .long 100]) (rest := []) ⟨hx, hb, hml, hown, hts⟩ k_3 (va_cwS 3 hts gX8_cold_X8_in rfl rfl rfl (by decide +kernel) ⟨Nat.le_of_ble_eq_true rfl, Nat.le_of_ble_eq_true rfl⟩) (wp_S hP hK hD hN [] (by decide) rfl) rfl rfl hl.1 rfl (lv_room (Nat.le_of_ble_eq_true rfl)) dX8_cold_18 ⟨Nat.le_of_ble_eq_true rfl, Nat.le_of_ble_eq_true rfl⟩) hP hD hS hA [] [0, 1] rfl rfl (by decide) (by decide) (fun r_3 u_3 H locs hw_3 hP hD hS => ?_)
    clear k_3
    have hP : va_P D kl [(h, .inr (7, [.ref sl, .int na, .ref zs, .ref ln, .ref ir, .ref tk, .int su, .int le, .ref tb, .int fu, .int ap, .int pp, .ref tr, .int tc, .ref fz, .int nm])), (sl, .inl (cI, 1653, .inl sf))] H := hP
    have hD : va_D A [(h, .inr (7, [.ref sl, .int na, .ref zs, .ref ln, .ref ir, .ref tk, .int su, .int le, .ref tb, .int fu, .int ap, .int pp, .ref tr, .int tc, .ref fz, .int nm])), (sl, .inl (cI, 1653, .inl sf))] := hD
    have c3_0 := hw_3
    rcases c3_0 with ⟨e_3, f_3⟩ | ⟨e_3, f_3⟩
    · subst e_3
      have f_3 : (0 : Int) ≤ n.toInt ∧ n.toInt ≤ (100 : Int) := by
        have h8 := f_3
        try simp only [zl_of] at h8
        exact h8
      refine lv_if_eq (tgt := 36) hx hb dX8_cold_21 (by decide) (fun c9 => absurd c9 (by decide)) (fun _ => ?_)
      refine lv_iload_n hx hb dX8_cold_24 rfl (lv_at hl 2 rfl) ?_
      refine lv_i2l (v := (k.toInt64)) hx hb dX8_cold_25 rfl ?_
      refine lv_lconst (v := 0) hx hb dX8_cold_26 (by decide) ?_
      refine lv_ldc2 (v := 2) hx hb hown (hts (.constantLong RX8 46 (2)) (List.mem_of_getElem? (i := 4) rfl)) dX8_cold_27 ?_
      have k_4 := (g_X8_in l D cI cB cQ H.size (k.toInt64) 0 2)
      refine wc_i (WC := []) (WR := [(h, .inr (7, [.ref sl, .int na, .ref zs, .ref ln, .ref ir, .ref tk, .int su, .int le, .ref tb, .int fu, .int ap, .int pp, .ref tr, .int tc, .ref fz, .int nm])), (sl, .inl (cI, 1653, .inl sf))]) (va_runS (As := [.long (k.toInt64), .long 0, .long 2]) (rest := []) ⟨hx, hb, hml, hown, hts⟩ k_4 (va_cwS 3 hts gX8_cold_X8_in rfl rfl rfl (by decide +kernel) ⟨Nat.le_of_ble_eq_true rfl, Nat.le_of_ble_eq_true rfl⟩) (wp_S hP hK hD hN [] (by decide) rfl) rfl rfl hl.1 rfl (lv_room (Nat.le_of_ble_eq_true rfl)) dX8_cold_30 ⟨Nat.le_of_ble_eq_true rfl, Nat.le_of_ble_eq_true rfl⟩) hP hD hS hA [] [0, 1] rfl rfl (by decide) (by decide) (fun r_4 u_4 H locs hw_4 hP hD hS => ?_)
      clear k_4
      have hP : va_P D kl [(h, .inr (7, [.ref sl, .int na, .ref zs, .ref ln, .ref ir, .ref tk, .int su, .int le, .ref tb, .int fu, .int ap, .int pp, .ref tr, .int tc, .ref fz, .int nm])), (sl, .inl (cI, 1653, .inl sf))] H := hP
      have hD : va_D A [(h, .inr (7, [.ref sl, .int na, .ref zs, .ref ln, .ref ir, .ref tk, .int su, .int le, .ref tb, .int fu, .int ap, .int pp, .ref tr, .int tc, .ref fz, .int nm])), (sl, .inl (cI, 1653, .inl sf))] := hD
      have c4_0 := hw_4
      rcases c4_0 with ⟨e_4, f_4⟩ | ⟨e_4, f_4⟩
      · subst e_4
        have f_4 : (0 : Int) ≤ k.toInt ∧ k.toInt ≤ (2 : Int) := by
          have h8 := f_4
          try simp only [zl_of] at h8
          exact h8
        refine lv_if_ne (tgt := 39) hx hb dX8_cold_33 (by decide) (fun _ => ?_) (fun c9 => absurd c9 (by decide))
        refine lv_aload_n hx hb dX8_cold_39 rfl (lv_at hl 0 rfl) ?_
        refine lv_iload_n hx hb dX8_cold_40 rfl (lv_at hl 1 rfl) ?_
        have k_5 := (g_X8_again l D cI cB cQ H.size h sl zs ln ir tk tb tr fz na su le fu ap pp tc nm n sf v0 hsi (by omega))
        refine wc_v (WC := [(h, .inr (7, [.ref sl, .int na, .ref zs, .ref ln, .ref ir, .ref tk, .int su, .int le, .ref tb, .int fu, .int ap, .int pp, .ref tr, .int tc, .ref fz, .int nm])), (sl, .inl (cI, 1653, .inl sf))]) (WR := []) (va_runV (As := [.int n]) (rest := []) ⟨hx, hb, hml, hown, hts⟩ k_5 (cwV 1 hts gX8_cold_X8_again rfl rfl rfl (by decide +kernel) ⟨Nat.le_of_ble_eq_true rfl, Nat.le_of_ble_eq_true rfl⟩) (wp_V hP hK hD hN [0, 1] (by decide) rfl (ci := 7) rfl rfl) rfl rfl hl.1 rfl (lv_room (Nat.le_of_ble_eq_true rfl)) dX8_cold_41 ⟨Nat.le_of_ble_eq_true rfl, Nat.le_of_ble_eq_true rfl⟩) hP hD hS hA [0, 1] [] rfl rfl (by decide) (by decide) (fun u_5 H locs hw_5 hP hD hS => ?_)
        clear k_5
        have hP : va_P D kl [(h, .inr (7, [.ref sl, .int na, .ref zs, .ref ln, .ref ir, .ref tk, .int su, .int le, .ref tb, .int fu, .int ap, .int pp, .ref tr, .int tc, .ref fz, .int nm])), (sl, .inl (cI, 1653, .inl u_5))] H := hP
        have hD : va_D A [(h, .inr (7, [.ref sl, .int na, .ref zs, .ref ln, .ref ir, .ref tk, .int su, .int le, .ref tb, .int fu, .int ap, .int pp, .ref tr, .int tc, .ref fz, .int nm])), (sl, .inl (cI, 1653, .inl u_5))] := hD
        have c5_0 := hw_5
        have c5_0 : SI u_5 v0 := c5_0
        refine lv_iload_n hx hb dX8_cold_44 rfl (lv_at hl 2 rfl) ?_
        refine lv_if_ne (tgt := 59) hx hb dX8_cold_45 (by decide) (fun c_6 => ?_) (fun c_6 => ?_)
        · have f_6 : ¬ k.toInt = 0 := zi_ne c_6
          refine lv_iload_n hx hb dX8_cold_59 rfl (lv_at hl 2 rfl) ?_
          refine lv_iconst (v := 1) hx hb dX8_cold_60 (by decide) ?_
          refine lv_icmp_ne (tgt := 75) hx hb dX8_cold_61 (by decide) (fun c_7 => ?_) (fun c_7 => ?_)
          · have f_7 : ¬ k.toInt = 1 := zi_ne c_7
            refine lv_aload_n hx hb dX8_cold_75 rfl (lv_at hl 0 rfl) ?_
            refine lv_bipush (v := 27) hx hb dX8_cold_76 (by decide) ?_
            have k_8 := (g_X8_frozen l D cI cB cQ H.size h sl zs ln ir tk tb tr fz na su le fu ap pp tc nm 27 u_5 v0 c5_0 ⟨by decide, by decide⟩)
            refine wc_i (WC := [(h, .inr (7, [.ref sl, .int na, .ref zs, .ref ln, .ref ir, .ref tk, .int su, .int le, .ref tb, .int fu, .int ap, .int pp, .ref tr, .int tc, .ref fz, .int nm])), (sl, .inl (cI, 1653, .inl u_5))]) (WR := []) (va_runV (As := [.int 27]) (rest := []) ⟨hx, hb, hml, hown, hts⟩ k_8 (cwV 1 hts gX8_cold_X8_frozen rfl rfl rfl (by decide +kernel) ⟨Nat.le_of_ble_eq_true rfl, Nat.le_of_ble_eq_true rfl⟩) (wp_V hP hK hD hN [0, 1] (by decide) rfl (ci := 7) rfl rfl) rfl rfl hl.1 rfl (lv_room (Nat.le_of_ble_eq_true rfl)) dX8_cold_78 ⟨Nat.le_of_ble_eq_true rfl, Nat.le_of_ble_eq_true rfl⟩) hP hD hS hA [0, 1] [] rfl rfl (by decide) (by decide) (fun r_8 u_8 H locs hw_8 hP hD hS => ?_)
            clear k_8
            have hP : va_P D kl [(h, .inr (7, [.ref sl, .int na, .ref zs, .ref ln, .ref ir, .ref tk, .int su, .int le, .ref tb, .int fu, .int ap, .int pp, .ref tr, .int tc, .ref fz, .int nm])), (sl, .inl (cI, 1653, .inl u_5))] H := hP
            have hD : va_D A [(h, .inr (7, [.ref sl, .int na, .ref zs, .ref ln, .ref ir, .ref tk, .int su, .int le, .ref tb, .int fu, .int ap, .int pp, .ref tr, .int tc, .ref fz, .int nm])), (sl, .inl (cI, 1653, .inl u_5))] := hD
            clear hw_8
            exact wr_i (v := r_8) hx hb hr hlocks hS u_5 (by exact c5_0) (hP.sub [0, 1] rfl) (hD.sub [0, 1] (by decide) rfl) dX8_cold_81
          · have f_7 : k.toInt = 1 := zi_eq c_7
            refine lv_aload_n hx hb dX8_cold_64 rfl (lv_at hl 0 rfl) ?_
            refine va_get (D := D) (ci := 7) (v := .ref sl) (C := RX8) (T := TX8) (N := 16) hx hb hts (fun _ h => List.mem_cons_of_mem _ (List.mem_append_right _ h)) hown hK hP 0 rfl rfl 0 (by decide) (hts (.fieldLink RX8 7 "WinterWalkModel" "slot" "[I") (List.mem_of_getElem? (i := 1) rfl)) (fun _ h9 => h9) rfl dX8_cold_65 ?_
            refine lv_sipush (v := 1595) hx hb dX8_cold_68 (by decide) ?_
            refine va_iald hx hb hK hP 1 0 rfl rfl (zi_in (by decide) (by decide)) dX8_cold_71 ?_
            refine lv_topi (fun x_9 ex_9 => ?_)
            refine lv_goto (tgt := 81) hx hb dX8_cold_72 (by decide) ?_
            exact wr_i (v := x_9) hx hb hr hlocks hS u_5 (by exact c5_0) (hP.sub [0, 1] rfl) (hD.sub [0, 1] (by decide) rfl) dX8_cold_81
        · have f_6 : k.toInt = 0 := zi_eq c_6
          refine lv_aload_n hx hb dX8_cold_48 rfl (lv_at hl 0 rfl) ?_
          refine va_get (D := D) (ci := 7) (v := .ref sl) (C := RX8) (T := TX8) (N := 16) hx hb hts (fun _ h => List.mem_cons_of_mem _ (List.mem_append_right _ h)) hown hK hP 0 rfl rfl 0 (by decide) (hts (.fieldLink RX8 7 "WinterWalkModel" "slot" "[I") (List.mem_of_getElem? (i := 1) rfl)) (fun _ h9 => h9) rfl dX8_cold_49 ?_
          refine lv_sipush (v := 1594) hx hb dX8_cold_52 (by decide) ?_
          refine va_iald hx hb hK hP 1 0 rfl rfl (zi_in (by decide) (by decide)) dX8_cold_55 ?_
          refine lv_topi (fun x_10 ex_10 => ?_)
          refine lv_goto (tgt := 81) hx hb dX8_cold_56 (by decide) ?_
          exact wr_i (v := x_10) hx hb hr hlocks hS u_5 (by exact c5_0) (hP.sub [0, 1] rfl) (hD.sub [0, 1] (by decide) rfl) dX8_cold_81
      · subst e_4
        have f_4 : ¬ ((0 : Int) ≤ k.toInt ∧ k.toInt ≤ (2 : Int)) := by
          have h8 := f_4
          try simp only [zl_of] at h8
          exact h8
        refine lv_if_ne (tgt := 39) hx hb dX8_cold_33 (by decide) (fun c9 => absurd (by decide) c9) (fun _ => ?_)
        refine lv_ldc (v := (-1000001)) hx hb hown (hts (.constant RX8 48 (-1000001)) (List.mem_of_getElem? (i := 5) rfl)) dX8_cold_36 ?_
        exact wr_i (v := (-1000001)) hx hb hr hlocks hS sf (by exact hsi) (hP.sub [0, 1] rfl) (hD.sub [0, 1] (by decide) rfl) dX8_cold_38
    · subst e_3
      have f_3 : ¬ ((0 : Int) ≤ n.toInt ∧ n.toInt ≤ (100 : Int)) := by
        have h8 := f_3
        try simp only [zl_of] at h8
        exact h8
      refine lv_if_eq (tgt := 36) hx hb dX8_cold_21 (by decide) (fun _ => ?_) (fun c9 => absurd (by decide) c9)
      refine lv_ldc (v := (-1000001)) hx hb hown (hts (.constant RX8 48 (-1000001)) (List.mem_of_getElem? (i := 5) rfl)) dX8_cold_36 ?_
      exact wr_i (v := (-1000001)) hx hb hr hlocks hS sf (by exact hsi) (hP.sub [0, 1] rfl) (hD.sub [0, 1] (by decide) rfl) dX8_cold_38
  · have f_2 : x_1.toInt = 0 := zi_eq c_2
    refine lv_ldc (v := (-1000002)) hx hb hown (hts (.constant RX8 121 (-1000002)) (List.mem_of_getElem? (i := 2) rfl)) dX8_cold_9 ?_
    exact wr_i (v := (-1000002)) hx hb hr hlocks hS sf (by exact hsi) (hP.sub [0, 1] rfl) (hD.sub [0, 1] (by decide) rfl) dX8_cold_11
set_option maxHeartbeats 4000000 in
set_option maxRecDepth 100000 in
theorem g_X8_nights (l : Launch) (D : va_G) (cI cB cQ : ClassId) (sz : Nat) (h : Nat) (sl : Nat) (zs : Nat) (ln : Nat) (ir : Nat) (tk : Nat) (tb : Nat) (tr : Nat) (fz : Nat) (na : Int32) (su : Int32) (le : Int32) (fu : Int32) (ap : Int32) (pp : Int32) (tc : Int32) (nm : Int32) (v : Int32) (n : Int32) (sf : Nat → Int32) (v0 : Int) (hsi : SI sf v0) : mi l yX8_nights wsX8_nights ({ frames := 6, cells := 0, slots := 0, locals := 144 }) D cI cB cQ [.ref h, .int v, .int n] sz [(h, .inr (7, [.ref sl, .int na, .ref zs, .ref ln, .ref ir, .ref tk, .int su, .int le, .ref tb, .int fu, .int ap, .int pp, .ref tr, .int tc, .ref fz, .int nm])), (sl, .inl (cI, 1653, .inl sf))] (fun (r : Int32) (u : (Nat → Int32)) => (SI u v0)) (fun u => [(h, .inr (7, [.ref sl, .int na, .ref zs, .ref ln, .ref ir, .ref tk, .int su, .int le, .ref tb, .int fu, .int ap, .int pp, .ref tr, .int tc, .ref fz, .int nm])), (sl, .inl (cI, 1653, .inl u))]) 0 0 := by
  refine wm_i (cc := cX8_nights) (maxL := 3) (ret := (some .int)) (by decide) rfl (Nat.le_of_ble_eq_true rfl) ?_
  intro p e s m below meth c A ls hx hb hr hml hown hts hlocks hin hP hK hD hN hA hl hS
  have hown : s.vm.findClass RX8 = some m.cls := hown
  have hl : lv_has ls 3 [(0, .ref h), (1, .int v), (2, .int n)] := hl
  change W p l e ({ frames := 6, cells := 0, slots := 0, locals := 144 }) s m ([.ref h, .int v, .int n] : List Value).toArray below meth c s.heap [] 0 0 (MQ below (va_Qi (fun (r : Int32) (u : (Nat → Int32)) => (SI u v0)) (fun u t => wb D A ((fun u => [(h, .inr (7, [.ref sl, .int na, .ref zs, .ref ln, .ref ir, .ref tk, .int su, .int le, .ref tb, .int fu, .int ap, .int pp, .ref tr, .int tc, .ref fz, .int nm])), (sl, .inl (cI, 1653, .inl u))]) u) t) A) ([.ref h, .int v, .int n] : List Value).toArray s 0 0 A) (F0 m 0 ls [])
  refine lv_aload_n hx hb dX8_nights_0 rfl (lv_at hl 0 rfl) ?_
  refine lv_iload_n hx hb dX8_nights_1 rfl (lv_at hl 1 rfl) ?_
  have k_1 := (g_X8_isVillageThere l D cI cB cQ s.heap.size h sl zs ln ir tk tb tr fz na su le fu ap pp tc nm v sf v0 hsi)
  refine wc_i (WC := [(h, .inr (7, [.ref sl, .int na, .ref zs, .ref ln, .ref ir, .ref tk, .int su, .int le, .ref tb, .int fu, .int ap, .int pp, .ref tr, .int tc, .ref fz, .int nm])), (sl, .inl (cI, 1653, .inl sf))]) (WR := []) (va_runV (As := [.int v]) (rest := []) ⟨hx, hb, hml, hown, hts⟩ k_1 (cwV 1 hts gX8_nights_X8_isVillageThere rfl rfl rfl (by decide +kernel) ⟨Nat.le_of_ble_eq_true rfl, Nat.le_of_ble_eq_true rfl⟩) (wp_V hP hK hD hN [0, 1] (by decide) rfl (ci := 7) rfl rfl) rfl rfl hl.1 rfl (lv_room (Nat.le_of_ble_eq_true rfl)) dX8_nights_2 ⟨Nat.le_of_ble_eq_true rfl, Nat.le_of_ble_eq_true rfl⟩) hP hD hS hA [0, 1] [] rfl rfl (by decide) (by decide) (fun r_1 u_1 H locs hw_1 hP hD hS => ?_)
  clear k_1
  have hP : va_P D kl [(h, .inr (7, [.ref sl, .int na, .ref zs, .ref ln, .ref ir, .ref tk, .int su, .int le, .ref tb, .int fu, .int ap, .int pp, .ref tr, .int tc, .ref fz, .int nm])), (sl, .inl (cI, 1653, .inl sf))] H := hP
  have hD : va_D A [(h, .inr (7, [.ref sl, .int na, .ref zs, .ref ln, .ref ir, .ref tk, .int su, .int le, .ref tb, .int fu, .int ap, .int pp, .ref tr, .int tc, .ref fz, .int nm])), (sl, .inl (cI, 1653, .inl sf))] := hD
  have c1_0 := hw_1
  rcases c1_0 with ⟨e_1, f_1⟩ | e_1
  · subst e_1
    have f_1 : 0 ≤ v.toInt ∧ v.toInt ≤ 7 ∧ v.toInt < v0 := f_1
    refine lv_if_eq (tgt := 20) hx hb dX8_nights_5 (by decide) (fun c9 => absurd c9 (by decide)) (fun _ => ?_)
    refine lv_iload_n hx hb dX8_nights_8 rfl (lv_at hl 2 rfl) ?_
    refine lv_i2l (v := (n.toInt64)) hx hb dX8_nights_9 rfl ?_
    refine lv_lconst (v := 0) hx hb dX8_nights_10 (by decide) ?_
    refine lv_ldc2 (v := 100) hx hb hown (hts (.constantLong RX8 160 (100)) (List.mem_of_getElem? (i := 1) rfl)) dX8_nights_11 ?_
    have k_2 := (g_X8_in l D cI cB cQ H.size (n.toInt64) 0 100)
    refine wc_i (WC := []) (WR := [(h, .inr (7, [.ref sl, .int na, .ref zs, .ref ln, .ref ir, .ref tk, .int su, .int le, .ref tb, .int fu, .int ap, .int pp, .ref tr, .int tc, .ref fz, .int nm])), (sl, .inl (cI, 1653, .inl sf))]) (va_runS (As := [.long (n.toInt64), .long 0, .long 100]) (rest := []) ⟨hx, hb, hml, hown, hts⟩ k_2 (va_cwS 3 hts gX8_nights_X8_in rfl rfl rfl (by decide +kernel) ⟨Nat.le_of_ble_eq_true rfl, Nat.le_of_ble_eq_true rfl⟩) (wp_S hP hK hD hN [] (by decide) rfl) rfl rfl hl.1 rfl (lv_room (Nat.le_of_ble_eq_true rfl)) dX8_nights_14 ⟨Nat.le_of_ble_eq_true rfl, Nat.le_of_ble_eq_true rfl⟩) hP hD hS hA [] [0, 1] rfl rfl (by decide) (by decide) (fun r_2 u_2 H locs hw_2 hP hD hS => ?_)
    clear k_2
    have hP : va_P D kl [(h, .inr (7, [.ref sl, .int na, .ref zs, .ref ln, .ref ir, .ref tk, .int su, .int le, .ref tb, .int fu, .int ap, .int pp, .ref tr, .int tc, .ref fz, .int nm])), (sl, .inl (cI, 1653, .inl sf))] H := hP
    have hD : va_D A [(h, .inr (7, [.ref sl, .int na, .ref zs, .ref ln, .ref ir, .ref tk, .int su, .int le, .ref tb, .int fu, .int ap, .int pp, .ref tr, .int tc, .ref fz, .int nm])), (sl, .inl (cI, 1653, .inl sf))] := hD
    have c2_0 := hw_2
    rcases c2_0 with ⟨e_2, f_2⟩ | ⟨e_2, f_2⟩
    · subst e_2
      have f_2 : (0 : Int) ≤ n.toInt ∧ n.toInt ≤ (100 : Int) := by
        have h8 := f_2
        try simp only [zl_of] at h8
        exact h8
      refine lv_if_ne (tgt := 23) hx hb dX8_nights_17 (by decide) (fun _ => ?_) (fun c9 => absurd c9 (by decide))
      refine lv_aload_n hx hb dX8_nights_23 rfl (lv_at hl 0 rfl) ?_
      refine lv_iload_n hx hb dX8_nights_24 rfl (lv_at hl 2 rfl) ?_
      have k_3 := (g_X8_again l D cI cB cQ H.size h sl zs ln ir tk tb tr fz na su le fu ap pp tc nm n sf v0 hsi (by omega))
      refine wc_v (WC := [(h, .inr (7, [.ref sl, .int na, .ref zs, .ref ln, .ref ir, .ref tk, .int su, .int le, .ref tb, .int fu, .int ap, .int pp, .ref tr, .int tc, .ref fz, .int nm])), (sl, .inl (cI, 1653, .inl sf))]) (WR := []) (va_runV (As := [.int n]) (rest := []) ⟨hx, hb, hml, hown, hts⟩ k_3 (cwV 1 hts gX8_nights_X8_again rfl rfl rfl (by decide +kernel) ⟨Nat.le_of_ble_eq_true rfl, Nat.le_of_ble_eq_true rfl⟩) (wp_V hP hK hD hN [0, 1] (by decide) rfl (ci := 7) rfl rfl) rfl rfl hl.1 rfl (lv_room (Nat.le_of_ble_eq_true rfl)) dX8_nights_25 ⟨Nat.le_of_ble_eq_true rfl, Nat.le_of_ble_eq_true rfl⟩) hP hD hS hA [0, 1] [] rfl rfl (by decide) (by decide) (fun u_3 H locs hw_3 hP hD hS => ?_)
      clear k_3
      have hP : va_P D kl [(h, .inr (7, [.ref sl, .int na, .ref zs, .ref ln, .ref ir, .ref tk, .int su, .int le, .ref tb, .int fu, .int ap, .int pp, .ref tr, .int tc, .ref fz, .int nm])), (sl, .inl (cI, 1653, .inl u_3))] H := hP
      have hD : va_D A [(h, .inr (7, [.ref sl, .int na, .ref zs, .ref ln, .ref ir, .ref tk, .int su, .int le, .ref tb, .int fu, .int ap, .int pp, .ref tr, .int tc, .ref fz, .int nm])), (sl, .inl (cI, 1653, .inl u_3))] := hD
      have c3_0 := hw_3
      have c3_0 : SI u_3 v0 := c3_0
      refine lv_aload_n hx hb dX8_nights_28 rfl (lv_at hl 0 rfl) ?_
      refine va_get (D := D) (ci := 7) (v := .ref sl) (C := RX8) (T := TX8) (N := 16) hx hb hts (fun _ h => List.mem_cons_of_mem _ (List.mem_append_right _ h)) hown hK hP 0 rfl rfl 0 (by decide) (hts (.fieldLink RX8 7 "WinterWalkModel" "slot" "[I") (List.mem_of_getElem? (i := 3) rfl)) (fun _ h9 => h9) rfl dX8_nights_29 ?_
      refine lv_sipush (v := 1579) hx hb dX8_nights_32 (by decide) ?_
      refine lv_iload_n hx hb dX8_nights_35 rfl (lv_at hl 1 rfl) ?_
      refine lv_iadd hx hb dX8_nights_36 ?_
      refine lv_topi (fun x_4 ex_4 => ?_)
      have e_4 : x_4.toInt = 1579 + v.toInt := by rw [ex_4]; exact zi_add (by decide) (rfl) (by omega) (by omega)
      clear ex_4
      refine va_iald hx hb hK hP 1 0 rfl rfl (zi_in (by omega) (by omega)) dX8_nights_37 ?_
      refine lv_topi (fun x_5 ex_5 => ?_)
      clear ex_5
      exact wr_i (v := x_5) hx hb hr hlocks hS u_3 (by exact c3_0) (hP.sub [0, 1] rfl) (hD.sub [0, 1] (by decide) rfl) dX8_nights_38
    · subst e_2
      have f_2 : ¬ ((0 : Int) ≤ n.toInt ∧ n.toInt ≤ (100 : Int)) := by
        have h8 := f_2
        try simp only [zl_of] at h8
        exact h8
      refine lv_if_ne (tgt := 23) hx hb dX8_nights_17 (by decide) (fun c9 => absurd (by decide) c9) (fun _ => ?_)
      refine lv_ldc (v := (-1000001)) hx hb hown (hts (.constant RX8 48 (-1000001)) (List.mem_of_getElem? (i := 2) rfl)) dX8_nights_20 ?_
      exact wr_i (v := (-1000001)) hx hb hr hlocks hS sf (by exact hsi) (hP.sub [0, 1] rfl) (hD.sub [0, 1] (by decide) rfl) dX8_nights_22
  · subst e_1
    refine lv_if_eq (tgt := 20) hx hb dX8_nights_5 (by decide) (fun _ => ?_) (fun c9 => absurd (by decide) c9)
    refine lv_ldc (v := (-1000001)) hx hb hown (hts (.constant RX8 48 (-1000001)) (List.mem_of_getElem? (i := 2) rfl)) dX8_nights_20 ?_
    exact wr_i (v := (-1000001)) hx hb hr hlocks hS sf (by exact hsi) (hP.sub [0, 1] rfl) (hD.sub [0, 1] (by decide) rfl) dX8_nights_22
set_option maxHeartbeats 4000000 in
set_option maxRecDepth 100000 in
theorem g_X8_freezesOf (l : Launch) (D : va_G) (cI cB cQ : ClassId) (sz : Nat) (h : Nat) (sl : Nat) (zs : Nat) (ln : Nat) (ir : Nat) (tk : Nat) (tb : Nat) (tr : Nat) (fz : Nat) (na : Int32) (su : Int32) (le : Int32) (fu : Int32) (ap : Int32) (pp : Int32) (tc : Int32) (nm : Int32) (v : Int32) (n : Int32) (sf : Nat → Int32) (v0 : Int) (hsi : SI sf v0) (h_v : 0 ≤ v.toInt ∧ v.toInt ≤ 7) (h_n : 0 ≤ n.toInt ∧ n.toInt ≤ 100) : mi l yX8_freezesOf wsX8_freezesOf ({ frames := 5, cells := 0, slots := 0, locals := 122 }) D cI cB cQ [.ref h, .int v, .int n] sz [(h, .inr (7, [.ref sl, .int na, .ref zs, .ref ln, .ref ir, .ref tk, .int su, .int le, .ref tb, .int fu, .int ap, .int pp, .ref tr, .int tc, .ref fz, .int nm])), (sl, .inl (cI, 1653, .inl sf))] (fun (r : Int32) (u : (Nat → Int32)) => (SI u v0)) (fun u => [(h, .inr (7, [.ref sl, .int na, .ref zs, .ref ln, .ref ir, .ref tk, .int su, .int le, .ref tb, .int fu, .int ap, .int pp, .ref tr, .int tc, .ref fz, .int nm])), (sl, .inl (cI, 1653, .inl u))]) 0 0 := by
  refine wm_i (cc := cX8_freezesOf) (maxL := 4) (ret := (some .int)) (by decide) rfl (Nat.le_of_ble_eq_true rfl) ?_
  intro p e s m below meth c A ls hx hb hr hml hown hts hlocks hin hP hK hD hN hA hl hS
  have hown : s.vm.findClass RX8 = some m.cls := hown
  have hl : lv_has ls 4 [(0, .ref h), (1, .int v), (2, .int n)] := hl
  change W p l e ({ frames := 5, cells := 0, slots := 0, locals := 122 }) s m ([.ref h, .int v, .int n] : List Value).toArray below meth c s.heap [] 0 0 (MQ below (va_Qi (fun (r : Int32) (u : (Nat → Int32)) => (SI u v0)) (fun u t => wb D A ((fun u => [(h, .inr (7, [.ref sl, .int na, .ref zs, .ref ln, .ref ir, .ref tk, .int su, .int le, .ref tb, .int fu, .int ap, .int pp, .ref tr, .int tc, .ref fz, .int nm])), (sl, .inl (cI, 1653, .inl u))]) u) t) A) ([.ref h, .int v, .int n] : List Value).toArray s 0 0 A) (F0 m 0 ls [])
  refine lv_aload_n hx hb dX8_freezesOf_0 rfl (lv_at hl 0 rfl) ?_
  refine lv_iconst (v := 0) hx hb dX8_freezesOf_1 (by decide) ?_
  refine lv_bipush (v := 27) hx hb dX8_freezesOf_2 (by decide) ?_
  have k_1 := (g_X8_copies l D cI cB cQ s.heap.size h sl zs ln ir tk tb tr fz na su le fu ap pp tc nm 0 27 sf v0 hsi ⟨by decide, by decide⟩ ⟨by decide, by decide⟩)
  refine wc_v (WC := [(h, .inr (7, [.ref sl, .int na, .ref zs, .ref ln, .ref ir, .ref tk, .int su, .int le, .ref tb, .int fu, .int ap, .int pp, .ref tr, .int tc, .ref fz, .int nm])), (sl, .inl (cI, 1653, .inl sf))]) (WR := []) (va_runV (As := [.int 0, .int 27]) (rest := []) ⟨hx, hb, hml, hown, hts⟩ k_1 (cwV 2 hts gX8_freezesOf_X8_copies rfl rfl rfl (by decide +kernel) ⟨Nat.le_of_ble_eq_true rfl, Nat.le_of_ble_eq_true rfl⟩) (wp_V hP hK hD hN [0, 1] (by decide) rfl (ci := 7) rfl rfl) rfl rfl hl.1 rfl (lv_room (Nat.le_of_ble_eq_true rfl)) dX8_freezesOf_4 ⟨Nat.le_of_ble_eq_true rfl, Nat.le_of_ble_eq_true rfl⟩) hP hD hS hA [0, 1] [] rfl rfl (by decide) (by decide) (fun u_1 H locs hw_1 hP hD hS => ?_)
  clear k_1
  have hP : va_P D kl [(h, .inr (7, [.ref sl, .int na, .ref zs, .ref ln, .ref ir, .ref tk, .int su, .int le, .ref tb, .int fu, .int ap, .int pp, .ref tr, .int tc, .ref fz, .int nm])), (sl, .inl (cI, 1653, .inl u_1))] H := hP
  have hD : va_D A [(h, .inr (7, [.ref sl, .int na, .ref zs, .ref ln, .ref ir, .ref tk, .int su, .int le, .ref tb, .int fu, .int ap, .int pp, .ref tr, .int tc, .ref fz, .int nm])), (sl, .inl (cI, 1653, .inl u_1))] := hD
  have c1_0 := hw_1
  have c1_0 : SI u_1 v0 := c1_0
  refine lv_iconst (v := 0) hx hb dX8_freezesOf_7 (by decide) ?_
  refine lv_istore_n (lv' := [(3, .int 0), (0, .ref h), (1, .int v), (2, .int n)]) hx hb dX8_freezesOf_8 rfl hl (by decide) rfl (fun ls hl => ?_)
  have hL9 : ∀ (nf : Nat) (t3_c9 : Int32) (g0_c9 : Nat → Int32) (H : Heap) (locs : List Loc) (ls : Array Slot), (0 ≤ t3_c9.toInt ∧ t3_c9.toInt ≤ 100) → (SI g0_c9 v0) → (n.toInt - t3_c9.toInt).toNat < nf → va_P D kl [(h, .inr (7, [.ref sl, .int na, .ref zs, .ref ln, .ref ir, .ref tk, .int su, .int le, .ref tb, .int fu, .int ap, .int pp, .ref tr, .int tc, .ref fz, .int nm])), (sl, .inl (cI, 1653, .inl g0_c9))] H → va_D A [(h, .inr (7, [.ref sl, .int na, .ref zs, .ref ln, .ref ir, .ref tk, .int su, .int le, .ref tb, .int fu, .int ap, .int pp, .ref tr, .int tc, .ref fz, .int nm])), (sl, .inl (cI, 1653, .inl g0_c9))] → va_S A s.heap H locs → lv_has ls 4 [(3, .int t3_c9), (0, .ref h), (1, .int v), (2, .int n)] → W p l e ({ frames := 5, cells := 0, slots := 0, locals := 122 }) s m ([.ref h, .int v, .int n] : List Value).toArray below meth c H locs 0 0 (MQ below (va_Qi (fun (r : Int32) (u : (Nat → Int32)) => (SI u v0)) (fun u t => wb D A ((fun u => [(h, .inr (7, [.ref sl, .int na, .ref zs, .ref ln, .ref ir, .ref tk, .int su, .int le, .ref tb, .int fu, .int ap, .int pp, .ref tr, .int tc, .ref fz, .int nm])), (sl, .inl (cI, 1653, .inl u))]) u) t) A) ([.ref h, .int v, .int n] : List Value).toArray s 0 0 A) (F0 m 9 ls []) := by
    intro nf
    induction nf with
    | zero =>
      intro t3_c9 g0_c9 H locs ls i_t3_c9 ha_g0_c9 hm
      exact absurd hm (Nat.not_lt_zero _)
    | succ nf ih9 =>
      intro t3_c9 g0_c9 H locs ls i_t3_c9 ha_g0_c9 hm9 hP hD hS hl
      refine lv_iload_n hx hb dX8_freezesOf_9 rfl (lv_at hl 0 rfl) ?_
      refine lv_iload_n hx hb dX8_freezesOf_10 rfl (lv_at hl 3 rfl) ?_
      refine lv_icmp_ge (tgt := 42) hx hb dX8_freezesOf_11 (by decide) (fun c_2 => ?_) (fun c_2 => ?_)
      · have f_2 : n.toInt ≤ t3_c9.toInt := zi_le c_2
        refine lv_ldc (v := (-1000000)) hx hb hown (hts (.constant RX8 99 (-1000000)) (List.mem_of_getElem? (i := 2) rfl)) dX8_freezesOf_42 ?_
        exact wr_i (v := (-1000000)) hx hb hr hlocks hS g0_c9 (by exact ha_g0_c9) (hP.sub [0, 1] rfl) (hD.sub [0, 1] (by decide) rfl) dX8_freezesOf_44
      · have f_2 : ¬ n.toInt ≤ t3_c9.toInt := zi_nle c_2
        refine lv_aload_n hx hb dX8_freezesOf_14 rfl (lv_at hl 1 rfl) ?_
        refine lv_bipush (v := 27) hx hb dX8_freezesOf_15 (by decide) ?_
        refine lv_iconst (v := (-1)) hx hb dX8_freezesOf_17 (by decide) ?_
        have k_3 := (g_X8_day l D cI cB cQ H.size h sl zs ln ir tk tb tr fz na su le fu ap pp tc nm 27 (-1) g0_c9 v0 ha_g0_c9 ⟨by decide, by decide⟩)
        refine wc_v (WC := [(h, .inr (7, [.ref sl, .int na, .ref zs, .ref ln, .ref ir, .ref tk, .int su, .int le, .ref tb, .int fu, .int ap, .int pp, .ref tr, .int tc, .ref fz, .int nm])), (sl, .inl (cI, 1653, .inl g0_c9))]) (WR := []) (va_runV (As := [.int 27, .int (-1)]) (rest := []) ⟨hx, hb, hml, hown, hts⟩ k_3 (cwV 2 hts gX8_freezesOf_X8_day rfl rfl rfl (by decide +kernel) ⟨Nat.le_of_ble_eq_true rfl, Nat.le_of_ble_eq_true rfl⟩) (wp_V hP hK hD hN [0, 1] (by decide) rfl (ci := 7) rfl rfl) rfl rfl hl.1 rfl (lv_room (Nat.le_of_ble_eq_true rfl)) dX8_freezesOf_18 ⟨Nat.le_of_ble_eq_true rfl, Nat.le_of_ble_eq_true rfl⟩) hP hD hS hA [0, 1] [] rfl rfl (by decide) (by decide) (fun u_3 H locs hw_3 hP hD hS => ?_)
        clear k_3
        have hP : va_P D kl [(h, .inr (7, [.ref sl, .int na, .ref zs, .ref ln, .ref ir, .ref tk, .int su, .int le, .ref tb, .int fu, .int ap, .int pp, .ref tr, .int tc, .ref fz, .int nm])), (sl, .inl (cI, 1653, .inl u_3))] H := hP
        have hD : va_D A [(h, .inr (7, [.ref sl, .int na, .ref zs, .ref ln, .ref ir, .ref tk, .int su, .int le, .ref tb, .int fu, .int ap, .int pp, .ref tr, .int tc, .ref fz, .int nm])), (sl, .inl (cI, 1653, .inl u_3))] := hD
        have c3_0 := hw_3
        have c3_0 : SI u_3 v0 := c3_0
        refine lv_aload_n hx hb dX8_freezesOf_21 rfl (lv_at hl 1 rfl) ?_
        refine va_get (D := D) (ci := 7) (v := .ref sl) (C := RX8) (T := TX8) (N := 16) hx hb hts (fun _ h => List.mem_cons_of_mem _ (List.mem_append_right _ h)) hown hK hP 0 rfl rfl 0 (by decide) (hts (.fieldLink RX8 7 "WinterWalkModel" "slot" "[I") (List.mem_of_getElem? (i := 1) rfl)) (fun _ h9 => h9) rfl dX8_freezesOf_22 ?_
        refine lv_sipush (v := 1571) hx hb dX8_freezesOf_25 (by decide) ?_
        refine lv_iload_n hx hb dX8_freezesOf_28 rfl (lv_at hl 2 rfl) ?_
        refine lv_iadd hx hb dX8_freezesOf_29 ?_
        refine lv_topi (fun x_4 ex_4 => ?_)
        have e_4 : x_4.toInt = 1571 + v.toInt := by rw [ex_4]; exact zi_add (by decide) (rfl) (by omega) (by omega)
        clear ex_4
        refine va_iald hx hb hK hP 1 0 rfl rfl (zi_in (by omega) (by omega)) dX8_freezesOf_30 ?_
        refine lv_topi (fun x_5 ex_5 => ?_)
        clear ex_5
        refine lv_if_le (tgt := 36) hx hb dX8_freezesOf_31 (by decide) (fun c_6 => ?_) (fun c_6 => ?_)
        · have f_6 : x_5.toInt ≤ 0 := zi_le c_6
          obtain ⟨x_7, ex_7⟩ : ∃ y : Int32, y = t3_c9 + Int32.ofInt 1 := ⟨_, rfl⟩
          refine lv_iinc (v := x_7) (lv' := [(3, .int x_7), (0, .ref h), (1, .int v), (2, .int n)]) hx hb dX8_freezesOf_36 hl (k := 0) rfl ex_7.symm (by decide) rfl (fun ls hl => ?_)
          have ex_7 : x_7 = t3_c9 + 1 := ex_7
          have e_7 : x_7.toInt = t3_c9.toInt + 1 := by rw [ex_7]; exact zi_add (rfl) (by decide) (by omega) (by omega)
          clear ex_7
          refine lv_goto (tgt := 9) hx hb dX8_freezesOf_39 (by decide) ?_
          exact ih9 x_7 u_3 _ _ _ (show 0 ≤ x_7.toInt ∧ x_7.toInt ≤ 100 from by omega) c3_0 (by omega) (hP.sub [0, 1] rfl) (hD.sub [0, 1] (by decide) rfl) hS (lv_sub hl [0, 1, 2, 3] rfl)
        · have f_6 : ¬ x_5.toInt ≤ 0 := zi_nle c_6
          refine lv_iload_n hx hb dX8_freezesOf_34 rfl (lv_at hl 0 rfl) ?_
          exact wr_i (v := t3_c9) hx hb hr hlocks hS u_3 (by exact c3_0) (hP.sub [0, 1] rfl) (hD.sub [0, 1] (by decide) rfl) dX8_freezesOf_35
  exact hL9 (((n.toInt - (0 : Int32).toInt).toNat) + 1) 0 u_1 _ _ _ (show 0 ≤ 0 ∧ 0 ≤ 100 from by omega) c1_0 (Nat.lt_succ_self _) (hP.sub [0, 1] rfl) (hD.sub [0, 1] (by decide) rfl) hS (lv_sub hl [0, 1, 2, 3] rfl)
set_option maxHeartbeats 4000000 in
set_option maxRecDepth 100000 in
theorem g_X8_freezes (l : Launch) (D : va_G) (cI cB cQ : ClassId) (sz : Nat) (h : Nat) (sl : Nat) (zs : Nat) (ln : Nat) (ir : Nat) (tk : Nat) (tb : Nat) (tr : Nat) (fz : Nat) (na : Int32) (su : Int32) (le : Int32) (fu : Int32) (ap : Int32) (pp : Int32) (tc : Int32) (nm : Int32) (v : Int32) (n : Int32) (sf : Nat → Int32) (v0 : Int) (hsi : SI sf v0) : mi l yX8_freezes wsX8_freezes ({ frames := 6, cells := 0, slots := 0, locals := 145 }) D cI cB cQ [.ref h, .int v, .int n] sz [(h, .inr (7, [.ref sl, .int na, .ref zs, .ref ln, .ref ir, .ref tk, .int su, .int le, .ref tb, .int fu, .int ap, .int pp, .ref tr, .int tc, .ref fz, .int nm])), (sl, .inl (cI, 1653, .inl sf))] (fun (r : Int32) (u : (Nat → Int32)) => (SI u v0)) (fun u => [(h, .inr (7, [.ref sl, .int na, .ref zs, .ref ln, .ref ir, .ref tk, .int su, .int le, .ref tb, .int fu, .int ap, .int pp, .ref tr, .int tc, .ref fz, .int nm])), (sl, .inl (cI, 1653, .inl u))]) 0 0 := by
  refine wm_i (cc := cX8_freezes) (maxL := 3) (ret := (some .int)) (by decide) rfl (Nat.le_of_ble_eq_true rfl) ?_
  intro p e s m below meth c A ls hx hb hr hml hown hts hlocks hin hP hK hD hN hA hl hS
  have hown : s.vm.findClass RX8 = some m.cls := hown
  have hl : lv_has ls 3 [(0, .ref h), (1, .int v), (2, .int n)] := hl
  change W p l e ({ frames := 6, cells := 0, slots := 0, locals := 145 }) s m ([.ref h, .int v, .int n] : List Value).toArray below meth c s.heap [] 0 0 (MQ below (va_Qi (fun (r : Int32) (u : (Nat → Int32)) => (SI u v0)) (fun u t => wb D A ((fun u => [(h, .inr (7, [.ref sl, .int na, .ref zs, .ref ln, .ref ir, .ref tk, .int su, .int le, .ref tb, .int fu, .int ap, .int pp, .ref tr, .int tc, .ref fz, .int nm])), (sl, .inl (cI, 1653, .inl u))]) u) t) A) ([.ref h, .int v, .int n] : List Value).toArray s 0 0 A) (F0 m 0 ls [])
  refine lv_aload_n hx hb dX8_freezes_0 rfl (lv_at hl 0 rfl) ?_
  refine lv_iload_n hx hb dX8_freezes_1 rfl (lv_at hl 1 rfl) ?_
  have k_1 := (g_X8_isVillageThere l D cI cB cQ s.heap.size h sl zs ln ir tk tb tr fz na su le fu ap pp tc nm v sf v0 hsi)
  refine wc_i (WC := [(h, .inr (7, [.ref sl, .int na, .ref zs, .ref ln, .ref ir, .ref tk, .int su, .int le, .ref tb, .int fu, .int ap, .int pp, .ref tr, .int tc, .ref fz, .int nm])), (sl, .inl (cI, 1653, .inl sf))]) (WR := []) (va_runV (As := [.int v]) (rest := []) ⟨hx, hb, hml, hown, hts⟩ k_1 (cwV 1 hts gX8_freezes_X8_isVillageThere rfl rfl rfl (by decide +kernel) ⟨Nat.le_of_ble_eq_true rfl, Nat.le_of_ble_eq_true rfl⟩) (wp_V hP hK hD hN [0, 1] (by decide) rfl (ci := 7) rfl rfl) rfl rfl hl.1 rfl (lv_room (Nat.le_of_ble_eq_true rfl)) dX8_freezes_2 ⟨Nat.le_of_ble_eq_true rfl, Nat.le_of_ble_eq_true rfl⟩) hP hD hS hA [0, 1] [] rfl rfl (by decide) (by decide) (fun r_1 u_1 H locs hw_1 hP hD hS => ?_)
  clear k_1
  have hP : va_P D kl [(h, .inr (7, [.ref sl, .int na, .ref zs, .ref ln, .ref ir, .ref tk, .int su, .int le, .ref tb, .int fu, .int ap, .int pp, .ref tr, .int tc, .ref fz, .int nm])), (sl, .inl (cI, 1653, .inl sf))] H := hP
  have hD : va_D A [(h, .inr (7, [.ref sl, .int na, .ref zs, .ref ln, .ref ir, .ref tk, .int su, .int le, .ref tb, .int fu, .int ap, .int pp, .ref tr, .int tc, .ref fz, .int nm])), (sl, .inl (cI, 1653, .inl sf))] := hD
  have c1_0 := hw_1
  rcases c1_0 with ⟨e_1, f_1⟩ | e_1
  · subst e_1
    have f_1 : 0 ≤ v.toInt ∧ v.toInt ≤ 7 ∧ v.toInt < v0 := f_1
    refine lv_if_eq (tgt := 29) hx hb dX8_freezes_5 (by decide) (fun c9 => absurd c9 (by decide)) (fun _ => ?_)
    refine lv_iload_n hx hb dX8_freezes_8 rfl (lv_at hl 2 rfl) ?_
    refine lv_i2l (v := (n.toInt64)) hx hb dX8_freezes_9 rfl ?_
    refine lv_lconst (v := 1) hx hb dX8_freezes_10 (by decide) ?_
    refine lv_ldc2 (v := 100) hx hb hown (hts (.constantLong RX8 160 (100)) (List.mem_of_getElem? (i := 1) rfl)) dX8_freezes_11 ?_
    have k_2 := (g_X8_in l D cI cB cQ H.size (n.toInt64) 1 100)
    refine wc_i (WC := []) (WR := [(h, .inr (7, [.ref sl, .int na, .ref zs, .ref ln, .ref ir, .ref tk, .int su, .int le, .ref tb, .int fu, .int ap, .int pp, .ref tr, .int tc, .ref fz, .int nm])), (sl, .inl (cI, 1653, .inl sf))]) (va_runS (As := [.long (n.toInt64), .long 1, .long 100]) (rest := []) ⟨hx, hb, hml, hown, hts⟩ k_2 (va_cwS 3 hts gX8_freezes_X8_in rfl rfl rfl (by decide +kernel) ⟨Nat.le_of_ble_eq_true rfl, Nat.le_of_ble_eq_true rfl⟩) (wp_S hP hK hD hN [] (by decide) rfl) rfl rfl hl.1 rfl (lv_room (Nat.le_of_ble_eq_true rfl)) dX8_freezes_14 ⟨Nat.le_of_ble_eq_true rfl, Nat.le_of_ble_eq_true rfl⟩) hP hD hS hA [] [0, 1] rfl rfl (by decide) (by decide) (fun r_2 u_2 H locs hw_2 hP hD hS => ?_)
    clear k_2
    have hP : va_P D kl [(h, .inr (7, [.ref sl, .int na, .ref zs, .ref ln, .ref ir, .ref tk, .int su, .int le, .ref tb, .int fu, .int ap, .int pp, .ref tr, .int tc, .ref fz, .int nm])), (sl, .inl (cI, 1653, .inl sf))] H := hP
    have hD : va_D A [(h, .inr (7, [.ref sl, .int na, .ref zs, .ref ln, .ref ir, .ref tk, .int su, .int le, .ref tb, .int fu, .int ap, .int pp, .ref tr, .int tc, .ref fz, .int nm])), (sl, .inl (cI, 1653, .inl sf))] := hD
    have c2_0 := hw_2
    rcases c2_0 with ⟨e_2, f_2⟩ | ⟨e_2, f_2⟩
    · subst e_2
      have f_2 : (1 : Int) ≤ n.toInt ∧ n.toInt ≤ (100 : Int) := by
        have h8 := f_2
        try simp only [zl_of] at h8
        exact h8
      refine lv_if_eq (tgt := 29) hx hb dX8_freezes_17 (by decide) (fun c9 => absurd c9 (by decide)) (fun _ => ?_)
      refine lv_aload_n hx hb dX8_freezes_20 rfl (lv_at hl 0 rfl) ?_
      refine lv_iload_n hx hb dX8_freezes_21 rfl (lv_at hl 1 rfl) ?_
      refine lv_iload_n hx hb dX8_freezes_22 rfl (lv_at hl 2 rfl) ?_
      have k_3 := (g_X8_freezesOf l D cI cB cQ H.size h sl zs ln ir tk tb tr fz na su le fu ap pp tc nm v n sf v0 hsi (by omega) (by omega))
      refine wc_i (WC := [(h, .inr (7, [.ref sl, .int na, .ref zs, .ref ln, .ref ir, .ref tk, .int su, .int le, .ref tb, .int fu, .int ap, .int pp, .ref tr, .int tc, .ref fz, .int nm])), (sl, .inl (cI, 1653, .inl sf))]) (WR := []) (va_runV (As := [.int v, .int n]) (rest := []) ⟨hx, hb, hml, hown, hts⟩ k_3 (cwV 2 hts gX8_freezes_X8_freezesOf rfl rfl rfl (by decide +kernel) ⟨Nat.le_of_ble_eq_true rfl, Nat.le_of_ble_eq_true rfl⟩) (wp_V hP hK hD hN [0, 1] (by decide) rfl (ci := 7) rfl rfl) rfl rfl hl.1 rfl (lv_room (Nat.le_of_ble_eq_true rfl)) dX8_freezes_23 ⟨Nat.le_of_ble_eq_true rfl, Nat.le_of_ble_eq_true rfl⟩) hP hD hS hA [0, 1] [] rfl rfl (by decide) (by decide) (fun r_3 u_3 H locs hw_3 hP hD hS => ?_)
      clear k_3
      have hP : va_P D kl [(h, .inr (7, [.ref sl, .int na, .ref zs, .ref ln, .ref ir, .ref tk, .int su, .int le, .ref tb, .int fu, .int ap, .int pp, .ref tr, .int tc, .ref fz, .int nm])), (sl, .inl (cI, 1653, .inl u_3))] H := hP
      have hD : va_D A [(h, .inr (7, [.ref sl, .int na, .ref zs, .ref ln, .ref ir, .ref tk, .int su, .int le, .ref tb, .int fu, .int ap, .int pp, .ref tr, .int tc, .ref fz, .int nm])), (sl, .inl (cI, 1653, .inl u_3))] := hD
      have c3_0 := hw_3
      have c3_0 : SI u_3 v0 := c3_0
      refine lv_goto (tgt := 31) hx hb dX8_freezes_26 (by decide) ?_
      exact wr_i (v := r_3) hx hb hr hlocks hS u_3 (by exact c3_0) (hP.sub [0, 1] rfl) (hD.sub [0, 1] (by decide) rfl) dX8_freezes_31
    · subst e_2
      have f_2 : ¬ ((1 : Int) ≤ n.toInt ∧ n.toInt ≤ (100 : Int)) := by
        have h8 := f_2
        try simp only [zl_of] at h8
        exact h8
      refine lv_if_eq (tgt := 29) hx hb dX8_freezes_17 (by decide) (fun _ => ?_) (fun c9 => absurd (by decide) c9)
      refine lv_ldc (v := (-1000001)) hx hb hown (hts (.constant RX8 48 (-1000001)) (List.mem_of_getElem? (i := 2) rfl)) dX8_freezes_29 ?_
      exact wr_i (v := (-1000001)) hx hb hr hlocks hS sf (by exact hsi) (hP.sub [0, 1] rfl) (hD.sub [0, 1] (by decide) rfl) dX8_freezes_31
  · subst e_1
    refine lv_if_eq (tgt := 29) hx hb dX8_freezes_5 (by decide) (fun _ => ?_) (fun c9 => absurd (by decide) c9)
    refine lv_ldc (v := (-1000001)) hx hb hown (hts (.constant RX8 48 (-1000001)) (List.mem_of_getElem? (i := 2) rfl)) dX8_freezes_29 ?_
    exact wr_i (v := (-1000001)) hx hb hr hlocks hS sf (by exact hsi) (hP.sub [0, 1] rfl) (hD.sub [0, 1] (by decide) rfl) dX8_freezes_31
set_option maxHeartbeats 4000000 in
set_option maxRecDepth 100000 in
theorem g_X8_warn (l : Launch) (D : va_G) (cI cB cQ : ClassId) (sz : Nat) (h : Nat) (sl : Nat) (zs : Nat) (ln : Nat) (ir : Nat) (tk : Nat) (tb : Nat) (tr : Nat) (fz : Nat) (na : Int32) (su : Int32) (le : Int32) (fu : Int32) (ap : Int32) (pp : Int32) (tc : Int32) (nm : Int32) (k : Int32) (sf : Nat → Int32) (fzf : Nat → Int32) (v0 : Int) (hsi : SI sf v0) : mi l yX8_warn wsX8_warn ({ frames := 6, cells := 0, slots := 0, locals := 145 }) D cI cB cQ [.ref h, .int k] sz [(h, .inr (7, [.ref sl, .int na, .ref zs, .ref ln, .ref ir, .ref tk, .int su, .int le, .ref tb, .int fu, .int ap, .int pp, .ref tr, .int tc, .ref fz, .int nm])), (sl, .inl (cI, 1653, .inl sf)), (fz, .inl (cI, 8, .inl fzf))] (fun (r : Int32) (u : (Nat → Int32) × (Nat → Int32)) => (SI u.1 v0)) (fun u => [(h, .inr (7, [.ref sl, .int na, .ref zs, .ref ln, .ref ir, .ref tk, .int su, .int le, .ref tb, .int fu, .int ap, .int pp, .ref tr, .int tc, .ref fz, .int nm])), (sl, .inl (cI, 1653, .inl u.1)), (fz, .inl (cI, 8, .inl u.2))]) 0 0 := by
  refine wm_i (cc := cX8_warn) (maxL := 6) (ret := (some .int)) (by decide) rfl (Nat.le_of_ble_eq_true rfl) ?_
  intro p e s m below meth c A ls hx hb hr hml hown hts hlocks hin hP hK hD hN hA hl hS
  have hown : s.vm.findClass RX8 = some m.cls := hown
  have hl : lv_has ls 6 [(0, .ref h), (1, .int k)] := hl
  change W p l e ({ frames := 6, cells := 0, slots := 0, locals := 145 }) s m ([.ref h, .int k] : List Value).toArray below meth c s.heap [] 0 0 (MQ below (va_Qi (fun (r : Int32) (u : (Nat → Int32) × (Nat → Int32)) => (SI u.1 v0)) (fun u t => wb D A ((fun u => [(h, .inr (7, [.ref sl, .int na, .ref zs, .ref ln, .ref ir, .ref tk, .int su, .int le, .ref tb, .int fu, .int ap, .int pp, .ref tr, .int tc, .ref fz, .int nm])), (sl, .inl (cI, 1653, .inl u.1)), (fz, .inl (cI, 8, .inl u.2))]) u) t) A) ([.ref h, .int k] : List Value).toArray s 0 0 A) (F0 m 0 ls [])
  refine lv_aload_n hx hb dX8_warn_0 rfl (lv_at hl 0 rfl) ?_
  refine va_get (D := D) (ci := 7) (v := .ref sl) (C := RX8) (T := TX8) (N := 16) hx hb hts (fun _ h => List.mem_cons_of_mem _ (List.mem_append_right _ h)) hown hK hP 0 rfl rfl 0 (by decide) (hts (.fieldLink RX8 7 "WinterWalkModel" "slot" "[I") (List.mem_of_getElem? (i := 1) rfl)) (fun _ h9 => h9) rfl dX8_warn_1 ?_
  refine lv_iconst (v := 1) hx hb dX8_warn_4 (by decide) ?_
  refine va_iald hx hb hK hP 1 0 rfl rfl (zi_in (by decide) (by decide)) dX8_warn_5 ?_
  refine lv_topi (fun x_1 ex_1 => ?_)
  have f_1 : 0 ≤ x_1.toInt ∧ x_1.toInt ≤ 8 := by rw [ex_1]; exact si_v hsi (s := 0) (by decide) (by omega)
  have g_1 : x_1.toInt = v0 := by rw [ex_1]; exact hsi.2
  refine lv_if_ne (tgt := 12) hx hb dX8_warn_6 (by decide) (fun c_2 => ?_) (fun c_2 => ?_)
  · have f_2 : ¬ x_1.toInt = 0 := zi_ne c_2
    refine lv_iload_n hx hb dX8_warn_12 rfl (lv_at hl 1 rfl) ?_
    refine lv_i2l (v := (k.toInt64)) hx hb dX8_warn_13 rfl ?_
    refine lv_ldc2 (v := (-1)) hx hb hown (hts (.constantLong RX8 172 (-1)) (List.mem_of_getElem? (i := 3) rfl)) dX8_warn_14 ?_
    refine lv_ldc2 (v := 7) hx hb hown (hts (.constantLong RX8 40 (7)) (List.mem_of_getElem? (i := 4) rfl)) dX8_warn_17 ?_
    have k_3 := (g_X8_in l D cI cB cQ s.heap.size (k.toInt64) (-1) 7)
    refine wc_i (WC := []) (WR := [(h, .inr (7, [.ref sl, .int na, .ref zs, .ref ln, .ref ir, .ref tk, .int su, .int le, .ref tb, .int fu, .int ap, .int pp, .ref tr, .int tc, .ref fz, .int nm])), (sl, .inl (cI, 1653, .inl sf)), (fz, .inl (cI, 8, .inl fzf))]) (va_runS (As := [.long (k.toInt64), .long (-1), .long 7]) (rest := []) ⟨hx, hb, hml, hown, hts⟩ k_3 (va_cwS 3 hts gX8_warn_X8_in rfl rfl rfl (by decide +kernel) ⟨Nat.le_of_ble_eq_true rfl, Nat.le_of_ble_eq_true rfl⟩) (wp_S hP hK hD hN [] (by decide) rfl) rfl rfl hl.1 rfl (lv_room (Nat.le_of_ble_eq_true rfl)) dX8_warn_20 ⟨Nat.le_of_ble_eq_true rfl, Nat.le_of_ble_eq_true rfl⟩) hP hD hS hA [] [0, 1, 2] rfl rfl (by decide) (by decide) (fun r_3 u_3 H locs hw_3 hP hD hS => ?_)
    clear k_3
    have hP : va_P D kl [(h, .inr (7, [.ref sl, .int na, .ref zs, .ref ln, .ref ir, .ref tk, .int su, .int le, .ref tb, .int fu, .int ap, .int pp, .ref tr, .int tc, .ref fz, .int nm])), (sl, .inl (cI, 1653, .inl sf)), (fz, .inl (cI, 8, .inl fzf))] H := hP
    have hD : va_D A [(h, .inr (7, [.ref sl, .int na, .ref zs, .ref ln, .ref ir, .ref tk, .int su, .int le, .ref tb, .int fu, .int ap, .int pp, .ref tr, .int tc, .ref fz, .int nm])), (sl, .inl (cI, 1653, .inl sf)), (fz, .inl (cI, 8, .inl fzf))] := hD
    have c3_0 := hw_3
    rcases c3_0 with ⟨e_3, f_3⟩ | ⟨e_3, f_3⟩
    · subst e_3
      have f_3 : (-1 : Int) ≤ k.toInt ∧ k.toInt ≤ (7 : Int) := by
        have h8 := f_3
        try simp only [zl_of] at h8
        exact h8
      refine lv_if_ne (tgt := 29) hx hb dX8_warn_23 (by decide) (fun _ => ?_) (fun c9 => absurd c9 (by decide))
      refine lv_iconst (v := 0) hx hb dX8_warn_29 (by decide) ?_
      refine lv_istore_n (lv' := [(2, .int 0), (0, .ref h), (1, .int k)]) hx hb dX8_warn_30 rfl hl (by decide) rfl (fun ls hl => ?_)
      refine lv_iconst (v := 0) hx hb dX8_warn_31 (by decide) ?_
      refine lv_istore_n (lv' := [(3, .int 0), (2, .int 0), (0, .ref h), (1, .int k)]) hx hb dX8_warn_32 rfl hl (by decide) rfl (fun ls hl => ?_)
      have hL33 : ∀ (nf : Nat) (t3_c33 : Int32) (t2_c33 : Int32) (g0_c33 : Nat → Int32) (g1_c33 : Nat → Int32) (H : Heap) (locs : List Loc) (ls : Array Slot), (0 ≤ t3_c33.toInt ∧ t3_c33.toInt ≤ 8) → (SI g0_c33 v0) → (8 - t3_c33.toInt).toNat < nf → va_P D kl [(h, .inr (7, [.ref sl, .int na, .ref zs, .ref ln, .ref ir, .ref tk, .int su, .int le, .ref tb, .int fu, .int ap, .int pp, .ref tr, .int tc, .ref fz, .int nm])), (sl, .inl (cI, 1653, .inl g0_c33)), (fz, .inl (cI, 8, .inl g1_c33))] H → va_D A [(h, .inr (7, [.ref sl, .int na, .ref zs, .ref ln, .ref ir, .ref tk, .int su, .int le, .ref tb, .int fu, .int ap, .int pp, .ref tr, .int tc, .ref fz, .int nm])), (sl, .inl (cI, 1653, .inl g0_c33)), (fz, .inl (cI, 8, .inl g1_c33))] → va_S A s.heap H locs → lv_has ls 6 [(3, .int t3_c33), (2, .int t2_c33), (0, .ref h), (1, .int k)] → W p l e ({ frames := 6, cells := 0, slots := 0, locals := 145 }) s m ([.ref h, .int k] : List Value).toArray below meth c H locs 0 0 (MQ below (va_Qi (fun (r : Int32) (u : (Nat → Int32) × (Nat → Int32)) => (SI u.1 v0)) (fun u t => wb D A ((fun u => [(h, .inr (7, [.ref sl, .int na, .ref zs, .ref ln, .ref ir, .ref tk, .int su, .int le, .ref tb, .int fu, .int ap, .int pp, .ref tr, .int tc, .ref fz, .int nm])), (sl, .inl (cI, 1653, .inl u.1)), (fz, .inl (cI, 8, .inl u.2))]) u) t) A) ([.ref h, .int k] : List Value).toArray s 0 0 A) (F0 m 33 ls []) := by
        intro nf
        induction nf with
        | zero =>
          intro t3_c33 t2_c33 g0_c33 g1_c33 H locs ls i_t3_c33 ha_g0_c33 hm
          exact absurd hm (Nat.not_lt_zero _)
        | succ nf ih33 =>
          intro t3_c33 t2_c33 g0_c33 g1_c33 H locs ls i_t3_c33 ha_g0_c33 hm33 hP hD hS hl
          refine lv_iload_n hx hb dX8_warn_33 rfl (lv_at hl 0 rfl) ?_
          refine lv_aload_n hx hb dX8_warn_34 rfl (lv_at hl 2 rfl) ?_
          refine va_get (D := D) (ci := 7) (v := .ref sl) (C := RX8) (T := TX8) (N := 16) hx hb hts (fun _ h => List.mem_cons_of_mem _ (List.mem_append_right _ h)) hown hK hP 0 rfl rfl 0 (by decide) (hts (.fieldLink RX8 7 "WinterWalkModel" "slot" "[I") (List.mem_of_getElem? (i := 1) rfl)) (fun _ h9 => h9) rfl dX8_warn_35 ?_
          refine lv_iconst (v := 1) hx hb dX8_warn_38 (by decide) ?_
          refine va_iald hx hb hK hP 1 0 rfl rfl (zi_in (by decide) (by decide)) dX8_warn_39 ?_
          refine lv_topi (fun x_4 ex_4 => ?_)
          have f_4 : 0 ≤ x_4.toInt ∧ x_4.toInt ≤ 8 := by rw [ex_4]; exact si_v ha_g0_c33 (s := 0) (by decide) (by omega)
          have g_4 : x_4.toInt = v0 := by rw [ex_4]; exact ha_g0_c33.2
          refine lv_icmp_ge (tgt := 79) hx hb dX8_warn_40 (by decide) (fun c_5 => ?_) (fun c_5 => ?_)
          · have f_5 : x_4.toInt ≤ t3_c33.toInt := zi_le c_5
            refine lv_iconst (v := 0) hx hb dX8_warn_79 (by decide) ?_
            refine lv_istore_n (lv' := [(3, .int 0), (2, .int t2_c33), (0, .ref h), (1, .int k)]) hx hb dX8_warn_80 rfl hl (by decide) rfl (fun ls hl => ?_)
            have hL81 : ∀ (nf : Nat) (t3_c81 : Int32) (H : Heap) (locs : List Loc) (ls : Array Slot), (0 ≤ t3_c81.toInt ∧ t3_c81.toInt ≤ 8) → (8 - t3_c81.toInt).toNat < nf → va_P D kl [(h, .inr (7, [.ref sl, .int na, .ref zs, .ref ln, .ref ir, .ref tk, .int su, .int le, .ref tb, .int fu, .int ap, .int pp, .ref tr, .int tc, .ref fz, .int nm])), (sl, .inl (cI, 1653, .inl g0_c33)), (fz, .inl (cI, 8, .inl g1_c33))] H → va_D A [(h, .inr (7, [.ref sl, .int na, .ref zs, .ref ln, .ref ir, .ref tk, .int su, .int le, .ref tb, .int fu, .int ap, .int pp, .ref tr, .int tc, .ref fz, .int nm])), (sl, .inl (cI, 1653, .inl g0_c33)), (fz, .inl (cI, 8, .inl g1_c33))] → va_S A s.heap H locs → lv_has ls 6 [(3, .int t3_c81), (2, .int t2_c33), (0, .ref h), (1, .int k)] → W p l e ({ frames := 6, cells := 0, slots := 0, locals := 145 }) s m ([.ref h, .int k] : List Value).toArray below meth c H locs 0 0 (MQ below (va_Qi (fun (r : Int32) (u : (Nat → Int32) × (Nat → Int32)) => (SI u.1 v0)) (fun u t => wb D A ((fun u => [(h, .inr (7, [.ref sl, .int na, .ref zs, .ref ln, .ref ir, .ref tk, .int su, .int le, .ref tb, .int fu, .int ap, .int pp, .ref tr, .int tc, .ref fz, .int nm])), (sl, .inl (cI, 1653, .inl u.1)), (fz, .inl (cI, 8, .inl u.2))]) u) t) A) ([.ref h, .int k] : List Value).toArray s 0 0 A) (F0 m 81 ls []) := by
              intro nf
              induction nf with
              | zero =>
                intro t3_c81 H locs ls i_t3_c81 hm
                exact absurd hm (Nat.not_lt_zero _)
              | succ nf ih81 =>
                intro t3_c81 H locs ls i_t3_c81 hm81 hP hD hS hl
                refine lv_iload_n hx hb dX8_warn_81 rfl (lv_at hl 0 rfl) ?_
                refine lv_aload_n hx hb dX8_warn_82 rfl (lv_at hl 2 rfl) ?_
                refine va_get (D := D) (ci := 7) (v := .ref sl) (C := RX8) (T := TX8) (N := 16) hx hb hts (fun _ h => List.mem_cons_of_mem _ (List.mem_append_right _ h)) hown hK hP 0 rfl rfl 0 (by decide) (hts (.fieldLink RX8 7 "WinterWalkModel" "slot" "[I") (List.mem_of_getElem? (i := 1) rfl)) (fun _ h9 => h9) rfl dX8_warn_83 ?_
                refine lv_iconst (v := 1) hx hb dX8_warn_86 (by decide) ?_
                refine va_iald hx hb hK hP 1 0 rfl rfl (zi_in (by decide) (by decide)) dX8_warn_87 ?_
                refine lv_topi (fun x_6 ex_6 => ?_)
                have f_6 : 0 ≤ x_6.toInt ∧ x_6.toInt ≤ 8 := by rw [ex_6]; exact si_v ha_g0_c33 (s := 0) (by decide) (by omega)
                have g_6 : x_6.toInt = v0 := by rw [ex_6]; exact ha_g0_c33.2
                refine lv_icmp_ge (tgt := 199) hx hb dX8_warn_88 (by decide) (fun c_7 => ?_) (fun c_7 => ?_)
                · have f_7 : x_6.toInt ≤ t3_c81.toInt := zi_le c_7
                  refine lv_iload_n hx hb dX8_warn_199 rfl (lv_at hl 3 rfl) ?_
                  refine lv_if_ge (tgt := 207) hx hb dX8_warn_200 (by decide) (fun c_8 => ?_) (fun c_8 => ?_)
                  · have f_8 : 0 ≤ k.toInt := zi_le c_8
                    refine lv_ldc (v := (-1000000)) hx hb hown (hts (.constant RX8 99 (-1000000)) (List.mem_of_getElem? (i := 7) rfl)) dX8_warn_207 ?_
                    exact wr_i (v := (-1000000)) hx hb hr hlocks hS (g0_c33, g1_c33) (by exact ha_g0_c33) (hP.sub [0, 1, 2] rfl) (hD.sub [0, 1, 2] (by decide) rfl) dX8_warn_209
                  · have f_8 : ¬ 0 ≤ k.toInt := zi_nle c_8
                    refine lv_iload_n hx hb dX8_warn_203 rfl (lv_at hl 1 rfl) ?_
                    refine lv_goto (tgt := 209) hx hb dX8_warn_204 (by decide) ?_
                    exact wr_i (v := t2_c33) hx hb hr hlocks hS (g0_c33, g1_c33) (by exact ha_g0_c33) (hP.sub [0, 1, 2] rfl) (hD.sub [0, 1, 2] (by decide) rfl) dX8_warn_209
                · have f_7 : ¬ x_6.toInt ≤ t3_c81.toInt := zi_nle c_7
                  refine lv_iload_n hx hb dX8_warn_91 rfl (lv_at hl 3 rfl) ?_
                  refine lv_if_lt (tgt := 199) hx hb dX8_warn_92 (by decide) (fun c_9 => ?_) (fun c_9 => ?_)
                  · have f_9 : k.toInt < 0 := zi_lt c_9
                    refine lv_iload_n hx hb dX8_warn_199 rfl (lv_at hl 3 rfl) ?_
                    refine lv_if_ge (tgt := 207) hx hb dX8_warn_200 (by decide) (fun c_10 => ?_) (fun c_10 => ?_)
                    · have f_10 : 0 ≤ k.toInt := zi_le c_10
                      exfalso; omega
                    · have f_10 : ¬ 0 ≤ k.toInt := zi_nle c_10
                      refine lv_iload_n hx hb dX8_warn_203 rfl (lv_at hl 1 rfl) ?_
                      refine lv_goto (tgt := 209) hx hb dX8_warn_204 (by decide) ?_
                      exact wr_i (v := t2_c33) hx hb hr hlocks hS (g0_c33, g1_c33) (by exact ha_g0_c33) (hP.sub [0, 1, 2] rfl) (hD.sub [0, 1, 2] (by decide) rfl) dX8_warn_209
                  · have f_9 : ¬ k.toInt < 0 := zi_nlt c_9
                    refine lv_iconst (v := 0) hx hb dX8_warn_95 (by decide) ?_
                    refine lv_istore (lv' := [(4, .int 0), (3, .int t3_c81), (2, .int t2_c33), (0, .ref h), (1, .int k)]) hx hb dX8_warn_96 hl (by decide) rfl (fun ls hl => ?_)
                    refine lv_iconst (v := 0) hx hb dX8_warn_98 (by decide) ?_
                    refine lv_istore (lv' := [(5, .int 0), (4, .int 0), (3, .int t3_c81), (2, .int t2_c33), (0, .ref h), (1, .int k)]) hx hb dX8_warn_99 hl (by decide) rfl (fun ls hl => ?_)
                    have hL101 : ∀ (nf : Nat) (t5_c101 : Int32) (t4_c101 : Int32) (H : Heap) (locs : List Loc) (ls : Array Slot), (0 ≤ t5_c101.toInt ∧ t5_c101.toInt ≤ 8) → (8 - t5_c101.toInt).toNat < nf → va_P D kl [(h, .inr (7, [.ref sl, .int na, .ref zs, .ref ln, .ref ir, .ref tk, .int su, .int le, .ref tb, .int fu, .int ap, .int pp, .ref tr, .int tc, .ref fz, .int nm])), (sl, .inl (cI, 1653, .inl g0_c33)), (fz, .inl (cI, 8, .inl g1_c33))] H → va_D A [(h, .inr (7, [.ref sl, .int na, .ref zs, .ref ln, .ref ir, .ref tk, .int su, .int le, .ref tb, .int fu, .int ap, .int pp, .ref tr, .int tc, .ref fz, .int nm])), (sl, .inl (cI, 1653, .inl g0_c33)), (fz, .inl (cI, 8, .inl g1_c33))] → va_S A s.heap H locs → lv_has ls 6 [(5, .int t5_c101), (4, .int t4_c101), (3, .int t3_c81), (2, .int t2_c33), (0, .ref h), (1, .int k)] → W p l e ({ frames := 6, cells := 0, slots := 0, locals := 145 }) s m ([.ref h, .int k] : List Value).toArray below meth c H locs 0 0 (MQ below (va_Qi (fun (r : Int32) (u : (Nat → Int32) × (Nat → Int32)) => (SI u.1 v0)) (fun u t => wb D A ((fun u => [(h, .inr (7, [.ref sl, .int na, .ref zs, .ref ln, .ref ir, .ref tk, .int su, .int le, .ref tb, .int fu, .int ap, .int pp, .ref tr, .int tc, .ref fz, .int nm])), (sl, .inl (cI, 1653, .inl u.1)), (fz, .inl (cI, 8, .inl u.2))]) u) t) A) ([.ref h, .int k] : List Value).toArray s 0 0 A) (F0 m 101 ls []) := by
                      intro nf
                      induction nf with
                      | zero =>
                        intro t5_c101 t4_c101 H locs ls i_t5_c101 hm
                        exact absurd hm (Nat.not_lt_zero _)
                      | succ nf ih101 =>
                        intro t5_c101 t4_c101 H locs ls i_t5_c101 hm101 hP hD hS hl
                        refine lv_iload hx hb dX8_warn_101 (lv_at hl 0 rfl) ?_
                        refine lv_aload_n hx hb dX8_warn_103 rfl (lv_at hl 4 rfl) ?_
                        refine va_get (D := D) (ci := 7) (v := .ref sl) (C := RX8) (T := TX8) (N := 16) hx hb hts (fun _ h => List.mem_cons_of_mem _ (List.mem_append_right _ h)) hown hK hP 0 rfl rfl 0 (by decide) (hts (.fieldLink RX8 7 "WinterWalkModel" "slot" "[I") (List.mem_of_getElem? (i := 1) rfl)) (fun _ h9 => h9) rfl dX8_warn_104 ?_
                        refine lv_iconst (v := 1) hx hb dX8_warn_107 (by decide) ?_
                        refine va_iald hx hb hK hP 1 0 rfl rfl (zi_in (by decide) (by decide)) dX8_warn_108 ?_
                        refine lv_topi (fun x_11 ex_11 => ?_)
                        have f_11 : 0 ≤ x_11.toInt ∧ x_11.toInt ≤ 8 := by rw [ex_11]; exact si_v ha_g0_c33 (s := 0) (by decide) (by omega)
                        have g_11 : x_11.toInt = v0 := by rw [ex_11]; exact ha_g0_c33.2
                        refine lv_icmp_ge (tgt := 176) hx hb dX8_warn_109 (by decide) (fun c_12 => ?_) (fun c_12 => ?_)
                        · have f_12 : x_11.toInt ≤ t5_c101.toInt := zi_le c_12
                          refine lv_aload_n hx hb dX8_warn_176 rfl (lv_at hl 4 rfl) ?_
                          refine va_get (D := D) (ci := 7) (v := .ref fz) (C := RX8) (T := TX8) (N := 16) hx hb hts (fun _ h => List.mem_cons_of_mem _ (List.mem_append_right _ h)) hown hK hP 0 rfl rfl 14 (by decide) (hts (.fieldLink RX8 32 "WinterWalkModel" "froze" "[I") (List.mem_of_getElem? (i := 6) rfl)) (fun _ h9 => h9) rfl dX8_warn_177 ?_
                          refine lv_iload_n hx hb dX8_warn_180 rfl (lv_at hl 2 rfl) ?_
                          refine va_iald hx hb hK hP 2 0 rfl rfl (zi_in (by omega) (by omega)) dX8_warn_181 ?_
                          refine lv_topi (fun x_13 ex_13 => ?_)
                          clear ex_13
                          refine lv_if_lt (tgt := 193) hx hb dX8_warn_182 (by decide) (fun c_14 => ?_) (fun c_14 => ?_)
                          · have f_14 : x_13.toInt < 0 := zi_lt c_14
                            obtain ⟨x_15, ex_15⟩ : ∃ y : Int32, y = t3_c81 + Int32.ofInt 1 := ⟨_, rfl⟩
                            refine lv_iinc (v := x_15) (lv' := [(3, .int x_15), (5, .int t5_c101), (4, .int t4_c101), (2, .int t2_c33), (0, .ref h), (1, .int k)]) hx hb dX8_warn_193 hl (k := 2) rfl ex_15.symm (by decide) rfl (fun ls hl => ?_)
                            have ex_15 : x_15 = t3_c81 + 1 := ex_15
                            have e_15 : x_15.toInt = t3_c81.toInt + 1 := by rw [ex_15]; exact zi_add (rfl) (by decide) (by omega) (by omega)
                            clear ex_15
                            refine lv_goto (tgt := 81) hx hb dX8_warn_196 (by decide) ?_
                            exact ih81 x_15 _ _ _ (show 0 ≤ x_15.toInt ∧ x_15.toInt ≤ 8 from by omega) (by omega) (hP.sub [0, 1, 2] rfl) (hD.sub [0, 1, 2] (by decide) rfl) hS (lv_sub hl [0, 3, 4, 5] rfl)
                          · have f_14 : ¬ x_13.toInt < 0 := zi_nlt c_14
                            refine lv_iload hx hb dX8_warn_185 (lv_at hl 1 rfl) ?_
                            refine lv_iload_n hx hb dX8_warn_187 rfl (lv_at hl 5 rfl) ?_
                            refine lv_icmp_ne (tgt := 193) hx hb dX8_warn_188 (by decide) (fun c_16 => ?_) (fun c_16 => ?_)
                            · have f_16 : ¬ t4_c101.toInt = k.toInt := zi_ne c_16
                              obtain ⟨x_17, ex_17⟩ : ∃ y : Int32, y = t3_c81 + Int32.ofInt 1 := ⟨_, rfl⟩
                              refine lv_iinc (v := x_17) (lv' := [(3, .int x_17), (5, .int t5_c101), (4, .int t4_c101), (2, .int t2_c33), (0, .ref h), (1, .int k)]) hx hb dX8_warn_193 hl (k := 2) rfl ex_17.symm (by decide) rfl (fun ls hl => ?_)
                              have ex_17 : x_17 = t3_c81 + 1 := ex_17
                              have e_17 : x_17.toInt = t3_c81.toInt + 1 := by rw [ex_17]; exact zi_add (rfl) (by decide) (by omega) (by omega)
                              clear ex_17
                              refine lv_goto (tgt := 81) hx hb dX8_warn_196 (by decide) ?_
                              exact ih81 x_17 _ _ _ (show 0 ≤ x_17.toInt ∧ x_17.toInt ≤ 8 from by omega) (by omega) (hP.sub [0, 1, 2] rfl) (hD.sub [0, 1, 2] (by decide) rfl) hS (lv_sub hl [0, 3, 4, 5] rfl)
                            · have f_16 : t4_c101.toInt = k.toInt := zi_eq c_16
                              refine lv_iload_n hx hb dX8_warn_191 rfl (lv_at hl 2 rfl) ?_
                              exact wr_i (v := t3_c81) hx hb hr hlocks hS (g0_c33, g1_c33) (by exact ha_g0_c33) (hP.sub [0, 1, 2] rfl) (hD.sub [0, 1, 2] (by decide) rfl) dX8_warn_192
                        · have f_12 : ¬ x_11.toInt ≤ t5_c101.toInt := zi_nle c_12
                          refine lv_iload hx hb dX8_warn_112 (lv_at hl 1 rfl) ?_
                          refine lv_aload_n hx hb dX8_warn_114 rfl (lv_at hl 4 rfl) ?_
                          refine va_get (D := D) (ci := 7) (v := .ref fz) (C := RX8) (T := TX8) (N := 16) hx hb hts (fun _ h => List.mem_cons_of_mem _ (List.mem_append_right _ h)) hown hK hP 0 rfl rfl 14 (by decide) (hts (.fieldLink RX8 32 "WinterWalkModel" "froze" "[I") (List.mem_of_getElem? (i := 6) rfl)) (fun _ h9 => h9) rfl dX8_warn_115 ?_
                          refine lv_iload hx hb dX8_warn_118 (lv_at hl 0 rfl) ?_
                          refine va_iald hx hb hK hP 2 0 rfl rfl (zi_in (by omega) (by omega)) dX8_warn_120 ?_
                          refine lv_topi (fun x_18 ex_18 => ?_)
                          clear ex_18
                          refine lv_if_lt (tgt := 166) hx hb dX8_warn_121 (by decide) (fun c_19 => ?_) (fun c_19 => ?_)
                          · have f_19 : x_18.toInt < 0 := zi_lt c_19
                            refine lv_iconst (v := 0) hx hb dX8_warn_166 (by decide) ?_
                            refine lv_iadd hx hb dX8_warn_167 ?_
                            refine lv_topi (fun x_20 ex_20 => ?_)
                            clear ex_20
                            refine lv_istore (lv' := [(4, .int x_20), (5, .int t5_c101), (3, .int t3_c81), (2, .int t2_c33), (0, .ref h), (1, .int k)]) hx hb dX8_warn_168 hl (by decide) rfl (fun ls hl => ?_)
                            obtain ⟨x_21, ex_21⟩ : ∃ y : Int32, y = t5_c101 + Int32.ofInt 1 := ⟨_, rfl⟩
                            refine lv_iinc (v := x_21) (lv' := [(5, .int x_21), (4, .int x_20), (3, .int t3_c81), (2, .int t2_c33), (0, .ref h), (1, .int k)]) hx hb dX8_warn_170 hl (k := 1) rfl ex_21.symm (by decide) rfl (fun ls hl => ?_)
                            have ex_21 : x_21 = t5_c101 + 1 := ex_21
                            have e_21 : x_21.toInt = t5_c101.toInt + 1 := by rw [ex_21]; exact zi_add (rfl) (by decide) (by omega) (by omega)
                            clear ex_21
                            refine lv_goto (tgt := 101) hx hb dX8_warn_173 (by decide) ?_
                            exact ih101 x_21 x_20 _ _ _ (show 0 ≤ x_21.toInt ∧ x_21.toInt ≤ 8 from by omega) (by omega) (hP.sub [0, 1, 2] rfl) (hD.sub [0, 1, 2] (by decide) rfl) hS (lv_sub hl [0, 1, 2, 3, 4, 5] rfl)
                          · have f_19 : ¬ x_18.toInt < 0 := zi_nlt c_19
                            refine lv_aload_n hx hb dX8_warn_124 rfl (lv_at hl 4 rfl) ?_
                            refine va_get (D := D) (ci := 7) (v := .ref fz) (C := RX8) (T := TX8) (N := 16) hx hb hts (fun _ h => List.mem_cons_of_mem _ (List.mem_append_right _ h)) hown hK hP 0 rfl rfl 14 (by decide) (hts (.fieldLink RX8 32 "WinterWalkModel" "froze" "[I") (List.mem_of_getElem? (i := 6) rfl)) (fun _ h9 => h9) rfl dX8_warn_125 ?_
                            refine lv_iload hx hb dX8_warn_128 (lv_at hl 0 rfl) ?_
                            refine va_iald hx hb hK hP 2 0 rfl rfl (zi_in (by omega) (by omega)) dX8_warn_130 ?_
                            refine lv_topi (fun x_22 ex_22 => ?_)
                            clear ex_22
                            refine lv_aload_n hx hb dX8_warn_131 rfl (lv_at hl 4 rfl) ?_
                            refine va_get (D := D) (ci := 7) (v := .ref fz) (C := RX8) (T := TX8) (N := 16) hx hb hts (fun _ h => List.mem_cons_of_mem _ (List.mem_append_right _ h)) hown hK hP 0 rfl rfl 14 (by decide) (hts (.fieldLink RX8 32 "WinterWalkModel" "froze" "[I") (List.mem_of_getElem? (i := 6) rfl)) (fun _ h9 => h9) rfl dX8_warn_132 ?_
                            refine lv_iload_n hx hb dX8_warn_135 rfl (lv_at hl 2 rfl) ?_
                            refine va_iald hx hb hK hP 2 0 rfl rfl (zi_in (by omega) (by omega)) dX8_warn_136 ?_
                            refine lv_topi (fun x_23 ex_23 => ?_)
                            clear ex_23
                            refine lv_icmp_lt (tgt := 162) hx hb dX8_warn_137 (by decide) (fun c_24 => ?_) (fun c_24 => ?_)
                            · have f_24 : x_22.toInt < x_23.toInt := zi_lt c_24
                              refine lv_iconst (v := 1) hx hb dX8_warn_162 (by decide) ?_
                              refine lv_goto (tgt := 167) hx hb dX8_warn_163 (by decide) ?_
                              refine lv_iadd hx hb dX8_warn_167 ?_
                              refine lv_topi (fun x_25 ex_25 => ?_)
                              clear ex_25
                              refine lv_istore (lv' := [(4, .int x_25), (5, .int t5_c101), (3, .int t3_c81), (2, .int t2_c33), (0, .ref h), (1, .int k)]) hx hb dX8_warn_168 hl (by decide) rfl (fun ls hl => ?_)
                              obtain ⟨x_26, ex_26⟩ : ∃ y : Int32, y = t5_c101 + Int32.ofInt 1 := ⟨_, rfl⟩
                              refine lv_iinc (v := x_26) (lv' := [(5, .int x_26), (4, .int x_25), (3, .int t3_c81), (2, .int t2_c33), (0, .ref h), (1, .int k)]) hx hb dX8_warn_170 hl (k := 1) rfl ex_26.symm (by decide) rfl (fun ls hl => ?_)
                              have ex_26 : x_26 = t5_c101 + 1 := ex_26
                              have e_26 : x_26.toInt = t5_c101.toInt + 1 := by rw [ex_26]; exact zi_add (rfl) (by decide) (by omega) (by omega)
                              clear ex_26
                              refine lv_goto (tgt := 101) hx hb dX8_warn_173 (by decide) ?_
                              exact ih101 x_26 x_25 _ _ _ (show 0 ≤ x_26.toInt ∧ x_26.toInt ≤ 8 from by omega) (by omega) (hP.sub [0, 1, 2] rfl) (hD.sub [0, 1, 2] (by decide) rfl) hS (lv_sub hl [0, 1, 2, 3, 4, 5] rfl)
                            · have f_24 : ¬ x_22.toInt < x_23.toInt := zi_nlt c_24
                              refine lv_aload_n hx hb dX8_warn_140 rfl (lv_at hl 4 rfl) ?_
                              refine va_get (D := D) (ci := 7) (v := .ref fz) (C := RX8) (T := TX8) (N := 16) hx hb hts (fun _ h => List.mem_cons_of_mem _ (List.mem_append_right _ h)) hown hK hP 0 rfl rfl 14 (by decide) (hts (.fieldLink RX8 32 "WinterWalkModel" "froze" "[I") (List.mem_of_getElem? (i := 6) rfl)) (fun _ h9 => h9) rfl dX8_warn_141 ?_
                              refine lv_iload hx hb dX8_warn_144 (lv_at hl 0 rfl) ?_
                              refine va_iald hx hb hK hP 2 0 rfl rfl (zi_in (by omega) (by omega)) dX8_warn_146 ?_
                              refine lv_topi (fun x_27 ex_27 => ?_)
                              clear ex_27
                              refine lv_aload_n hx hb dX8_warn_147 rfl (lv_at hl 4 rfl) ?_
                              refine va_get (D := D) (ci := 7) (v := .ref fz) (C := RX8) (T := TX8) (N := 16) hx hb hts (fun _ h => List.mem_cons_of_mem _ (List.mem_append_right _ h)) hown hK hP 0 rfl rfl 14 (by decide) (hts (.fieldLink RX8 32 "WinterWalkModel" "froze" "[I") (List.mem_of_getElem? (i := 6) rfl)) (fun _ h9 => h9) rfl dX8_warn_148 ?_
                              refine lv_iload_n hx hb dX8_warn_151 rfl (lv_at hl 2 rfl) ?_
                              refine va_iald hx hb hK hP 2 0 rfl rfl (zi_in (by omega) (by omega)) dX8_warn_152 ?_
                              refine lv_topi (fun x_28 ex_28 => ?_)
                              clear ex_28
                              refine lv_icmp_ne (tgt := 166) hx hb dX8_warn_153 (by decide) (fun c_29 => ?_) (fun c_29 => ?_)
                              · have f_29 : ¬ x_27.toInt = x_28.toInt := zi_ne c_29
                                refine lv_iconst (v := 0) hx hb dX8_warn_166 (by decide) ?_
                                refine lv_iadd hx hb dX8_warn_167 ?_
                                refine lv_topi (fun x_30 ex_30 => ?_)
                                clear ex_30
                                refine lv_istore (lv' := [(4, .int x_30), (5, .int t5_c101), (3, .int t3_c81), (2, .int t2_c33), (0, .ref h), (1, .int k)]) hx hb dX8_warn_168 hl (by decide) rfl (fun ls hl => ?_)
                                obtain ⟨x_31, ex_31⟩ : ∃ y : Int32, y = t5_c101 + Int32.ofInt 1 := ⟨_, rfl⟩
                                refine lv_iinc (v := x_31) (lv' := [(5, .int x_31), (4, .int x_30), (3, .int t3_c81), (2, .int t2_c33), (0, .ref h), (1, .int k)]) hx hb dX8_warn_170 hl (k := 1) rfl ex_31.symm (by decide) rfl (fun ls hl => ?_)
                                have ex_31 : x_31 = t5_c101 + 1 := ex_31
                                have e_31 : x_31.toInt = t5_c101.toInt + 1 := by rw [ex_31]; exact zi_add (rfl) (by decide) (by omega) (by omega)
                                clear ex_31
                                refine lv_goto (tgt := 101) hx hb dX8_warn_173 (by decide) ?_
                                exact ih101 x_31 x_30 _ _ _ (show 0 ≤ x_31.toInt ∧ x_31.toInt ≤ 8 from by omega) (by omega) (hP.sub [0, 1, 2] rfl) (hD.sub [0, 1, 2] (by decide) rfl) hS (lv_sub hl [0, 1, 2, 3, 4, 5] rfl)
                              · have f_29 : x_27.toInt = x_28.toInt := zi_eq c_29
                                refine lv_iload hx hb dX8_warn_156 (lv_at hl 0 rfl) ?_
                                refine lv_iload_n hx hb dX8_warn_158 rfl (lv_at hl 2 rfl) ?_
                                refine lv_icmp_ge (tgt := 166) hx hb dX8_warn_159 (by decide) (fun c_32 => ?_) (fun c_32 => ?_)
                                · have f_32 : t3_c81.toInt ≤ t5_c101.toInt := zi_le c_32
                                  refine lv_iconst (v := 0) hx hb dX8_warn_166 (by decide) ?_
                                  refine lv_iadd hx hb dX8_warn_167 ?_
                                  refine lv_topi (fun x_33 ex_33 => ?_)
                                  clear ex_33
                                  refine lv_istore (lv' := [(4, .int x_33), (5, .int t5_c101), (3, .int t3_c81), (2, .int t2_c33), (0, .ref h), (1, .int k)]) hx hb dX8_warn_168 hl (by decide) rfl (fun ls hl => ?_)
                                  obtain ⟨x_34, ex_34⟩ : ∃ y : Int32, y = t5_c101 + Int32.ofInt 1 := ⟨_, rfl⟩
                                  refine lv_iinc (v := x_34) (lv' := [(5, .int x_34), (4, .int x_33), (3, .int t3_c81), (2, .int t2_c33), (0, .ref h), (1, .int k)]) hx hb dX8_warn_170 hl (k := 1) rfl ex_34.symm (by decide) rfl (fun ls hl => ?_)
                                  have ex_34 : x_34 = t5_c101 + 1 := ex_34
                                  have e_34 : x_34.toInt = t5_c101.toInt + 1 := by rw [ex_34]; exact zi_add (rfl) (by decide) (by omega) (by omega)
                                  clear ex_34
                                  refine lv_goto (tgt := 101) hx hb dX8_warn_173 (by decide) ?_
                                  exact ih101 x_34 x_33 _ _ _ (show 0 ≤ x_34.toInt ∧ x_34.toInt ≤ 8 from by omega) (by omega) (hP.sub [0, 1, 2] rfl) (hD.sub [0, 1, 2] (by decide) rfl) hS (lv_sub hl [0, 1, 2, 3, 4, 5] rfl)
                                · have f_32 : ¬ t3_c81.toInt ≤ t5_c101.toInt := zi_nle c_32
                                  refine lv_iconst (v := 1) hx hb dX8_warn_162 (by decide) ?_
                                  refine lv_goto (tgt := 167) hx hb dX8_warn_163 (by decide) ?_
                                  refine lv_iadd hx hb dX8_warn_167 ?_
                                  refine lv_topi (fun x_35 ex_35 => ?_)
                                  clear ex_35
                                  refine lv_istore (lv' := [(4, .int x_35), (5, .int t5_c101), (3, .int t3_c81), (2, .int t2_c33), (0, .ref h), (1, .int k)]) hx hb dX8_warn_168 hl (by decide) rfl (fun ls hl => ?_)
                                  obtain ⟨x_36, ex_36⟩ : ∃ y : Int32, y = t5_c101 + Int32.ofInt 1 := ⟨_, rfl⟩
                                  refine lv_iinc (v := x_36) (lv' := [(5, .int x_36), (4, .int x_35), (3, .int t3_c81), (2, .int t2_c33), (0, .ref h), (1, .int k)]) hx hb dX8_warn_170 hl (k := 1) rfl ex_36.symm (by decide) rfl (fun ls hl => ?_)
                                  have ex_36 : x_36 = t5_c101 + 1 := ex_36
                                  have e_36 : x_36.toInt = t5_c101.toInt + 1 := by rw [ex_36]; exact zi_add (rfl) (by decide) (by omega) (by omega)
                                  clear ex_36
                                  refine lv_goto (tgt := 101) hx hb dX8_warn_173 (by decide) ?_
                                  exact ih101 x_36 x_35 _ _ _ (show 0 ≤ x_36.toInt ∧ x_36.toInt ≤ 8 from by omega) (by omega) (hP.sub [0, 1, 2] rfl) (hD.sub [0, 1, 2] (by decide) rfl) hS (lv_sub hl [0, 1, 2, 3, 4, 5] rfl)
                    exact hL101 (((8 - (0 : Int32).toInt).toNat) + 1) 0 0 _ _ _ (show 0 ≤ 0 ∧ 0 ≤ 8 from by omega) (Nat.lt_succ_self _) (hP.sub [0, 1, 2] rfl) (hD.sub [0, 1, 2] (by decide) rfl) hS (lv_sub hl [0, 1, 2, 3, 4, 5] rfl)
            exact hL81 (((8 - (0 : Int32).toInt).toNat) + 1) 0 _ _ _ (show 0 ≤ 0 ∧ 0 ≤ 8 from by omega) (Nat.lt_succ_self _) (hP.sub [0, 1, 2] rfl) (hD.sub [0, 1, 2] (by decide) rfl) hS (lv_sub hl [0, 1, 2, 3] rfl)
          · have f_5 : ¬ x_4.toInt ≤ t3_c33.toInt := zi_nle c_5
            refine lv_aload_n hx hb dX8_warn_43 rfl (lv_at hl 2 rfl) ?_
            refine va_get (D := D) (ci := 7) (v := .ref fz) (C := RX8) (T := TX8) (N := 16) hx hb hts (fun _ h => List.mem_cons_of_mem _ (List.mem_append_right _ h)) hown hK hP 0 rfl rfl 14 (by decide) (hts (.fieldLink RX8 32 "WinterWalkModel" "froze" "[I") (List.mem_of_getElem? (i := 6) rfl)) (fun _ h9 => h9) rfl dX8_warn_44 ?_
            refine lv_iload_n hx hb dX8_warn_47 rfl (lv_at hl 0 rfl) ?_
            refine lv_aload_n hx hb dX8_warn_48 rfl (lv_at hl 2 rfl) ?_
            refine lv_iload_n hx hb dX8_warn_49 rfl (lv_at hl 0 rfl) ?_
            refine lv_bipush (v := 100) hx hb dX8_warn_50 (by decide) ?_
            have k_37 := (g_X8_freezesOf l D cI cB cQ H.size h sl zs ln ir tk tb tr fz na su le fu ap pp tc nm t3_c33 100 g0_c33 v0 ha_g0_c33 (by omega) ⟨by decide, by decide⟩)
            refine wc_i (WC := [(h, .inr (7, [.ref sl, .int na, .ref zs, .ref ln, .ref ir, .ref tk, .int su, .int le, .ref tb, .int fu, .int ap, .int pp, .ref tr, .int tc, .ref fz, .int nm])), (sl, .inl (cI, 1653, .inl g0_c33))]) (WR := [(fz, .inl (cI, 8, .inl g1_c33))]) (va_runV (As := [.int t3_c33, .int 100]) (rest := [.int t3_c33, .ref fz]) ⟨hx, hb, hml, hown, hts⟩ k_37 (cwV 2 hts gX8_warn_X8_freezesOf rfl rfl rfl (by decide +kernel) ⟨Nat.le_of_ble_eq_true rfl, Nat.le_of_ble_eq_true rfl⟩) (wp_V hP hK hD hN [0, 1] (by decide) rfl (ci := 7) rfl rfl) rfl rfl hl.1 rfl (lv_room (Nat.le_of_ble_eq_true rfl)) dX8_warn_52 ⟨Nat.le_of_ble_eq_true rfl, Nat.le_of_ble_eq_true rfl⟩) hP hD hS hA [0, 1] [2] rfl rfl (by decide) (by decide) (fun r_37 u_37 H locs hw_37 hP hD hS => ?_)
            clear k_37
            have hP : va_P D kl [(fz, .inl (cI, 8, .inl g1_c33)), (h, .inr (7, [.ref sl, .int na, .ref zs, .ref ln, .ref ir, .ref tk, .int su, .int le, .ref tb, .int fu, .int ap, .int pp, .ref tr, .int tc, .ref fz, .int nm])), (sl, .inl (cI, 1653, .inl u_37))] H := hP
            have hD : va_D A [(fz, .inl (cI, 8, .inl g1_c33)), (h, .inr (7, [.ref sl, .int na, .ref zs, .ref ln, .ref ir, .ref tk, .int su, .int le, .ref tb, .int fu, .int ap, .int pp, .ref tr, .int tc, .ref fz, .int nm])), (sl, .inl (cI, 1653, .inl u_37))] := hD
            have c37_0 := hw_37
            have c37_0 : SI u_37 v0 := c37_0
            refine va_iast hx hb hK hP hD hS 0 0 rfl rfl (zi_in (by omega) (by omega)) dX8_warn_55 (fun H locs hP hD hS => ?_)
            have hP : va_P D kl [(fz, .inl (cI, 8, .inl (upd g1_c33 (t3_c33 : Int32).toNatClampNeg r_37))), (h, .inr (7, [.ref sl, .int na, .ref zs, .ref ln, .ref ir, .ref tk, .int su, .int le, .ref tb, .int fu, .int ap, .int pp, .ref tr, .int tc, .ref fz, .int nm])), (sl, .inl (cI, 1653, .inl u_37))] H := hP
            have hD : va_D A [(fz, .inl (cI, 8, .inl (upd g1_c33 (t3_c33 : Int32).toNatClampNeg r_37))), (h, .inr (7, [.ref sl, .int na, .ref zs, .ref ln, .ref ir, .ref tk, .int su, .int le, .ref tb, .int fu, .int ap, .int pp, .ref tr, .int tc, .ref fz, .int nm])), (sl, .inl (cI, 1653, .inl u_37))] := hD
            refine lv_iload_n hx hb dX8_warn_56 rfl (lv_at hl 1 rfl) ?_
            refine lv_aload_n hx hb dX8_warn_57 rfl (lv_at hl 2 rfl) ?_
            refine va_get (D := D) (ci := 7) (v := .ref fz) (C := RX8) (T := TX8) (N := 16) hx hb hts (fun _ h => List.mem_cons_of_mem _ (List.mem_append_right _ h)) hown hK hP 1 rfl rfl 14 (by decide) (hts (.fieldLink RX8 32 "WinterWalkModel" "froze" "[I") (List.mem_of_getElem? (i := 6) rfl)) (fun _ h9 => h9) rfl dX8_warn_58 ?_
            refine lv_iload_n hx hb dX8_warn_61 rfl (lv_at hl 0 rfl) ?_
            refine va_iald hx hb hK hP 0 0 rfl rfl (zi_in (by omega) (by omega)) dX8_warn_62 ?_
            refine lv_topi (fun x_38 ex_38 => ?_)
            clear ex_38
            refine lv_if_lt (tgt := 70) hx hb dX8_warn_63 (by decide) (fun c_39 => ?_) (fun c_39 => ?_)
            · have f_39 : x_38.toInt < 0 := zi_lt c_39
              refine lv_iconst (v := 0) hx hb dX8_warn_70 (by decide) ?_
              refine lv_iadd hx hb dX8_warn_71 ?_
              refine lv_topi (fun x_40 ex_40 => ?_)
              clear ex_40
              refine lv_istore_n (lv' := [(2, .int x_40), (3, .int t3_c33), (0, .ref h), (1, .int k)]) hx hb dX8_warn_72 rfl hl (by decide) rfl (fun ls hl => ?_)
              obtain ⟨x_41, ex_41⟩ : ∃ y : Int32, y = t3_c33 + Int32.ofInt 1 := ⟨_, rfl⟩
              refine lv_iinc (v := x_41) (lv' := [(3, .int x_41), (2, .int x_40), (0, .ref h), (1, .int k)]) hx hb dX8_warn_73 hl (k := 1) rfl ex_41.symm (by decide) rfl (fun ls hl => ?_)
              have ex_41 : x_41 = t3_c33 + 1 := ex_41
              have e_41 : x_41.toInt = t3_c33.toInt + 1 := by rw [ex_41]; exact zi_add (rfl) (by decide) (by omega) (by omega)
              clear ex_41
              refine lv_goto (tgt := 33) hx hb dX8_warn_76 (by decide) ?_
              exact ih33 x_41 x_40 u_37 (upd g1_c33 (t3_c33 : Int32).toNatClampNeg r_37) _ _ _ (show 0 ≤ x_41.toInt ∧ x_41.toInt ≤ 8 from by omega) c37_0 (by omega) (hP.sub [1, 2, 0] rfl) (hD.sub [1, 2, 0] (by decide) rfl) hS (lv_sub hl [0, 1, 2, 3] rfl)
            · have f_39 : ¬ x_38.toInt < 0 := zi_nlt c_39
              refine lv_iconst (v := 1) hx hb dX8_warn_66 (by decide) ?_
              refine lv_goto (tgt := 71) hx hb dX8_warn_67 (by decide) ?_
              refine lv_iadd hx hb dX8_warn_71 ?_
              refine lv_topi (fun x_42 ex_42 => ?_)
              clear ex_42
              refine lv_istore_n (lv' := [(2, .int x_42), (3, .int t3_c33), (0, .ref h), (1, .int k)]) hx hb dX8_warn_72 rfl hl (by decide) rfl (fun ls hl => ?_)
              obtain ⟨x_43, ex_43⟩ : ∃ y : Int32, y = t3_c33 + Int32.ofInt 1 := ⟨_, rfl⟩
              refine lv_iinc (v := x_43) (lv' := [(3, .int x_43), (2, .int x_42), (0, .ref h), (1, .int k)]) hx hb dX8_warn_73 hl (k := 1) rfl ex_43.symm (by decide) rfl (fun ls hl => ?_)
              have ex_43 : x_43 = t3_c33 + 1 := ex_43
              have e_43 : x_43.toInt = t3_c33.toInt + 1 := by rw [ex_43]; exact zi_add (rfl) (by decide) (by omega) (by omega)
              clear ex_43
              refine lv_goto (tgt := 33) hx hb dX8_warn_76 (by decide) ?_
              exact ih33 x_43 x_42 u_37 (upd g1_c33 (t3_c33 : Int32).toNatClampNeg r_37) _ _ _ (show 0 ≤ x_43.toInt ∧ x_43.toInt ≤ 8 from by omega) c37_0 (by omega) (hP.sub [1, 2, 0] rfl) (hD.sub [1, 2, 0] (by decide) rfl) hS (lv_sub hl [0, 1, 2, 3] rfl)
      exact hL33 (((8 - (0 : Int32).toInt).toNat) + 1) 0 0 sf fzf _ _ _ (show 0 ≤ 0 ∧ 0 ≤ 8 from by omega) hsi (Nat.lt_succ_self _) (hP.sub [0, 1, 2] rfl) (hD.sub [0, 1, 2] (by decide) rfl) hS (lv_sub hl [0, 1, 2, 3] rfl)
    · subst e_3
      have f_3 : ¬ ((-1 : Int) ≤ k.toInt ∧ k.toInt ≤ (7 : Int)) := by
        have h8 := f_3
        try simp only [zl_of] at h8
        exact h8
      refine lv_if_ne (tgt := 29) hx hb dX8_warn_23 (by decide) (fun c9 => absurd (by decide) c9) (fun _ => ?_)
      refine lv_ldc (v := (-1000001)) hx hb hown (hts (.constant RX8 48 (-1000001)) (List.mem_of_getElem? (i := 5) rfl)) dX8_warn_26 ?_
      exact wr_i (v := (-1000001)) hx hb hr hlocks hS (sf, fzf) (by exact hsi) (hP.sub [0, 1, 2] rfl) (hD.sub [0, 1, 2] (by decide) rfl) dX8_warn_28
  · have f_2 : x_1.toInt = 0 := zi_eq c_2
    refine lv_ldc (v := (-1000002)) hx hb hown (hts (.constant RX8 121 (-1000002)) (List.mem_of_getElem? (i := 2) rfl)) dX8_warn_9 ?_
    exact wr_i (v := (-1000002)) hx hb hr hlocks hS (sf, fzf) (by exact hsi) (hP.sub [0, 1, 2] rfl) (hD.sub [0, 1, 2] (by decide) rfl) dX8_warn_11
set_option maxHeartbeats 4000000 in
set_option maxRecDepth 100000 in
theorem g_X8_isSlept (l : Launch) (D : va_G) (cI cB cQ : ClassId) (sz : Nat) (h : Nat) (sl : Nat) (zs : Nat) (ln : Nat) (ir : Nat) (tk : Nat) (tb : Nat) (tr : Nat) (fz : Nat) (na : Int32) (su : Int32) (le : Int32) (fu : Int32) (ap : Int32) (pp : Int32) (tc : Int32) (nm : Int32) (v : Int32) (n : Int32) (sf : Nat → Int32) (v0 : Int) (hsi : SI sf v0) (h_v : 0 ≤ v.toInt ∧ v.toInt ≤ 7) (h_n : 0 ≤ n.toInt ∧ n.toInt ≤ 100) : mi l yX8_isSlept wsX8_isSlept ({ frames := 5, cells := 0, slots := 0, locals := 122 }) D cI cB cQ [.ref h, .int v, .int n] sz [(h, .inr (7, [.ref sl, .int na, .ref zs, .ref ln, .ref ir, .ref tk, .int su, .int le, .ref tb, .int fu, .int ap, .int pp, .ref tr, .int tc, .ref fz, .int nm])), (sl, .inl (cI, 1653, .inl sf))] (fun (r : Int32) (u : (Nat → Int32)) => ((r = 1) ∨ (r = 0)) ∧ (SI u v0)) (fun u => [(h, .inr (7, [.ref sl, .int na, .ref zs, .ref ln, .ref ir, .ref tk, .int su, .int le, .ref tb, .int fu, .int ap, .int pp, .ref tr, .int tc, .ref fz, .int nm])), (sl, .inl (cI, 1653, .inl u))]) 0 0 := by
  refine wm_i (cc := cX8_isSlept) (maxL := 5) (ret := (some .boolean)) (by decide) rfl (Nat.le_of_ble_eq_true rfl) ?_
  intro p e s m below meth c A ls hx hb hr hml hown hts hlocks hin hP hK hD hN hA hl hS
  have hown : s.vm.findClass RX8 = some m.cls := hown
  have hl : lv_has ls 5 [(0, .ref h), (1, .int v), (2, .int n)] := hl
  change W p l e ({ frames := 5, cells := 0, slots := 0, locals := 122 }) s m ([.ref h, .int v, .int n] : List Value).toArray below meth c s.heap [] 0 0 (MQ below (va_Qi (fun (r : Int32) (u : (Nat → Int32)) => ((r = 1) ∨ (r = 0)) ∧ (SI u v0)) (fun u t => wb D A ((fun u => [(h, .inr (7, [.ref sl, .int na, .ref zs, .ref ln, .ref ir, .ref tk, .int su, .int le, .ref tb, .int fu, .int ap, .int pp, .ref tr, .int tc, .ref fz, .int nm])), (sl, .inl (cI, 1653, .inl u))]) u) t) A) ([.ref h, .int v, .int n] : List Value).toArray s 0 0 A) (F0 m 0 ls [])
  refine lv_aload_n hx hb dX8_isSlept_0 rfl (lv_at hl 0 rfl) ?_
  refine va_get (D := D) (ci := 7) (v := .ref sl) (C := RX8) (T := TX8) (N := 16) hx hb hts (fun _ h => List.mem_cons_of_mem _ (List.mem_append_right _ h)) hown hK hP 0 rfl rfl 0 (by decide) (hts (.fieldLink RX8 7 "WinterWalkModel" "slot" "[I") (List.mem_of_getElem? (i := 1) rfl)) (fun _ h9 => h9) rfl dX8_isSlept_1 ?_
  refine lv_sipush (v := 1579) hx hb dX8_isSlept_4 (by decide) ?_
  refine lv_iload_n hx hb dX8_isSlept_7 rfl (lv_at hl 1 rfl) ?_
  refine lv_iadd hx hb dX8_isSlept_8 ?_
  refine lv_topi (fun x_1 ex_1 => ?_)
  have e_1 : x_1.toInt = 1579 + v.toInt := by rw [ex_1]; exact zi_add (by decide) (rfl) (by omega) (by omega)
  clear ex_1
  refine va_iald hx hb hK hP 1 0 rfl rfl (zi_in (by omega) (by omega)) dX8_isSlept_9 ?_
  refine lv_topi (fun x_2 ex_2 => ?_)
  clear ex_2
  refine lv_istore_n (lv' := [(3, .int x_2), (0, .ref h), (1, .int v), (2, .int n)]) hx hb dX8_isSlept_10 rfl hl (by decide) rfl (fun ls hl => ?_)
  refine lv_iconst (v := 0) hx hb dX8_isSlept_11 (by decide) ?_
  refine lv_istore (lv' := [(4, .int 0), (3, .int x_2), (0, .ref h), (1, .int v), (2, .int n)]) hx hb dX8_isSlept_12 hl (by decide) rfl (fun ls hl => ?_)
  have hL14 : ∀ (nf : Nat) (t4_c14 : Int32) (g0_c14 : Nat → Int32) (H : Heap) (locs : List Loc) (ls : Array Slot), (0 ≤ t4_c14.toInt ∧ t4_c14.toInt ≤ 100) → (SI g0_c14 v0) → (n.toInt - t4_c14.toInt).toNat < nf → va_P D kl [(h, .inr (7, [.ref sl, .int na, .ref zs, .ref ln, .ref ir, .ref tk, .int su, .int le, .ref tb, .int fu, .int ap, .int pp, .ref tr, .int tc, .ref fz, .int nm])), (sl, .inl (cI, 1653, .inl g0_c14))] H → va_D A [(h, .inr (7, [.ref sl, .int na, .ref zs, .ref ln, .ref ir, .ref tk, .int su, .int le, .ref tb, .int fu, .int ap, .int pp, .ref tr, .int tc, .ref fz, .int nm])), (sl, .inl (cI, 1653, .inl g0_c14))] → va_S A s.heap H locs → lv_has ls 5 [(4, .int t4_c14), (3, .int x_2), (0, .ref h), (1, .int v), (2, .int n)] → W p l e ({ frames := 5, cells := 0, slots := 0, locals := 122 }) s m ([.ref h, .int v, .int n] : List Value).toArray below meth c H locs 0 0 (MQ below (va_Qi (fun (r : Int32) (u : (Nat → Int32)) => ((r = 1) ∨ (r = 0)) ∧ (SI u v0)) (fun u t => wb D A ((fun u => [(h, .inr (7, [.ref sl, .int na, .ref zs, .ref ln, .ref ir, .ref tk, .int su, .int le, .ref tb, .int fu, .int ap, .int pp, .ref tr, .int tc, .ref fz, .int nm])), (sl, .inl (cI, 1653, .inl u))]) u) t) A) ([.ref h, .int v, .int n] : List Value).toArray s 0 0 A) (F0 m 14 ls []) := by
    intro nf
    induction nf with
    | zero =>
      intro t4_c14 g0_c14 H locs ls i_t4_c14 ha_g0_c14 hm
      exact absurd hm (Nat.not_lt_zero _)
    | succ nf ih14 =>
      intro t4_c14 g0_c14 H locs ls i_t4_c14 ha_g0_c14 hm14 hP hD hS hl
      refine lv_iload hx hb dX8_isSlept_14 (lv_at hl 0 rfl) ?_
      refine lv_iload_n hx hb dX8_isSlept_16 rfl (lv_at hl 4 rfl) ?_
      refine lv_icmp_ge (tgt := 33) hx hb dX8_isSlept_17 (by decide) (fun c_3 => ?_) (fun c_3 => ?_)
      · have f_3 : n.toInt ≤ t4_c14.toInt := zi_le c_3
        refine lv_aload_n hx hb dX8_isSlept_33 rfl (lv_at hl 2 rfl) ?_
        refine va_get (D := D) (ci := 7) (v := .ref sl) (C := RX8) (T := TX8) (N := 16) hx hb hts (fun _ h => List.mem_cons_of_mem _ (List.mem_append_right _ h)) hown hK hP 0 rfl rfl 0 (by decide) (hts (.fieldLink RX8 7 "WinterWalkModel" "slot" "[I") (List.mem_of_getElem? (i := 1) rfl)) (fun _ h9 => h9) rfl dX8_isSlept_34 ?_
        refine lv_sipush (v := 1579) hx hb dX8_isSlept_37 (by decide) ?_
        refine lv_iload_n hx hb dX8_isSlept_40 rfl (lv_at hl 3 rfl) ?_
        refine lv_iadd hx hb dX8_isSlept_41 ?_
        refine lv_topi (fun x_4 ex_4 => ?_)
        have e_4 : x_4.toInt = 1579 + v.toInt := by rw [ex_4]; exact zi_add (by decide) (rfl) (by omega) (by omega)
        clear ex_4
        refine va_iald hx hb hK hP 1 0 rfl rfl (zi_in (by omega) (by omega)) dX8_isSlept_42 ?_
        refine lv_topi (fun x_5 ex_5 => ?_)
        clear ex_5
        refine lv_iload_n hx hb dX8_isSlept_43 rfl (lv_at hl 1 rfl) ?_
        refine lv_icmp_le (tgt := 51) hx hb dX8_isSlept_44 (by decide) (fun c_6 => ?_) (fun c_6 => ?_)
        · have f_6 : x_5.toInt ≤ x_2.toInt := zi_le c_6
          refine lv_iconst (v := 0) hx hb dX8_isSlept_51 (by decide) ?_
          exact wr_z (v := 0) hx hb hr hlocks hS g0_c14 (by exact ⟨Or.inr (rfl), ha_g0_c14⟩) (hP.sub [0, 1] rfl) (hD.sub [0, 1] (by decide) rfl) dX8_isSlept_52 rfl
        · have f_6 : ¬ x_5.toInt ≤ x_2.toInt := zi_nle c_6
          refine lv_iconst (v := 1) hx hb dX8_isSlept_47 (by decide) ?_
          refine lv_goto (tgt := 52) hx hb dX8_isSlept_48 (by decide) ?_
          exact wr_z (v := 1) hx hb hr hlocks hS g0_c14 (by exact ⟨Or.inl rfl, ha_g0_c14⟩) (hP.sub [0, 1] rfl) (hD.sub [0, 1] (by decide) rfl) dX8_isSlept_52 rfl
      · have f_3 : ¬ n.toInt ≤ t4_c14.toInt := zi_nle c_3
        refine lv_aload_n hx hb dX8_isSlept_20 rfl (lv_at hl 2 rfl) ?_
        refine lv_bipush (v := 27) hx hb dX8_isSlept_21 (by decide) ?_
        refine lv_iconst (v := (-1)) hx hb dX8_isSlept_23 (by decide) ?_
        have k_7 := (g_X8_day l D cI cB cQ H.size h sl zs ln ir tk tb tr fz na su le fu ap pp tc nm 27 (-1) g0_c14 v0 ha_g0_c14 ⟨by decide, by decide⟩)
        refine wc_v (WC := [(h, .inr (7, [.ref sl, .int na, .ref zs, .ref ln, .ref ir, .ref tk, .int su, .int le, .ref tb, .int fu, .int ap, .int pp, .ref tr, .int tc, .ref fz, .int nm])), (sl, .inl (cI, 1653, .inl g0_c14))]) (WR := []) (va_runV (As := [.int 27, .int (-1)]) (rest := []) ⟨hx, hb, hml, hown, hts⟩ k_7 (cwV 2 hts gX8_isSlept_X8_day rfl rfl rfl (by decide +kernel) ⟨Nat.le_of_ble_eq_true rfl, Nat.le_of_ble_eq_true rfl⟩) (wp_V hP hK hD hN [0, 1] (by decide) rfl (ci := 7) rfl rfl) rfl rfl hl.1 rfl (lv_room (Nat.le_of_ble_eq_true rfl)) dX8_isSlept_24 ⟨Nat.le_of_ble_eq_true rfl, Nat.le_of_ble_eq_true rfl⟩) hP hD hS hA [0, 1] [] rfl rfl (by decide) (by decide) (fun u_7 H locs hw_7 hP hD hS => ?_)
        clear k_7
        have hP : va_P D kl [(h, .inr (7, [.ref sl, .int na, .ref zs, .ref ln, .ref ir, .ref tk, .int su, .int le, .ref tb, .int fu, .int ap, .int pp, .ref tr, .int tc, .ref fz, .int nm])), (sl, .inl (cI, 1653, .inl u_7))] H := hP
        have hD : va_D A [(h, .inr (7, [.ref sl, .int na, .ref zs, .ref ln, .ref ir, .ref tk, .int su, .int le, .ref tb, .int fu, .int ap, .int pp, .ref tr, .int tc, .ref fz, .int nm])), (sl, .inl (cI, 1653, .inl u_7))] := hD
        have c7_0 := hw_7
        have c7_0 : SI u_7 v0 := c7_0
        obtain ⟨x_8, ex_8⟩ : ∃ y : Int32, y = t4_c14 + Int32.ofInt 1 := ⟨_, rfl⟩
        refine lv_iinc (v := x_8) (lv' := [(4, .int x_8), (3, .int x_2), (0, .ref h), (1, .int v), (2, .int n)]) hx hb dX8_isSlept_27 hl (k := 0) rfl ex_8.symm (by decide) rfl (fun ls hl => ?_)
        have ex_8 : x_8 = t4_c14 + 1 := ex_8
        have e_8 : x_8.toInt = t4_c14.toInt + 1 := by rw [ex_8]; exact zi_add (rfl) (by decide) (by omega) (by omega)
        clear ex_8
        refine lv_goto (tgt := 14) hx hb dX8_isSlept_30 (by decide) ?_
        exact ih14 x_8 u_7 _ _ _ (show 0 ≤ x_8.toInt ∧ x_8.toInt ≤ 100 from by omega) c7_0 (by omega) (hP.sub [0, 1] rfl) (hD.sub [0, 1] (by decide) rfl) hS (lv_sub hl [0, 1, 2, 3, 4] rfl)
  exact hL14 (((n.toInt - (0 : Int32).toInt).toNat) + 1) 0 sf _ _ _ (show 0 ≤ 0 ∧ 0 ≤ 100 from by omega) hsi (Nat.lt_succ_self _) (hP.sub [0, 1] rfl) (hD.sub [0, 1] (by decide) rfl) hS (lv_sub hl [0, 1, 2, 3, 4] rfl)
set_option maxHeartbeats 4000000 in
set_option maxRecDepth 100000 in
theorem g_X8_lure (l : Launch) (D : va_G) (cI cB cQ : ClassId) (sz : Nat) (h : Nat) (sl : Nat) (zs : Nat) (ln : Nat) (ir : Nat) (tk : Nat) (tb : Nat) (tr : Nat) (fz : Nat) (na : Int32) (su : Int32) (le : Int32) (fu : Int32) (ap : Int32) (pp : Int32) (tc : Int32) (nm : Int32) (v : Int32) (n : Int32) (sf : Nat → Int32) (v0 : Int) (hsi : SI sf v0) : mi l yX8_lure wsX8_lure ({ frames := 6, cells := 0, slots := 0, locals := 146 }) D cI cB cQ [.ref h, .int v, .int n] sz [(h, .inr (7, [.ref sl, .int na, .ref zs, .ref ln, .ref ir, .ref tk, .int su, .int le, .ref tb, .int fu, .int ap, .int pp, .ref tr, .int tc, .ref fz, .int nm])), (sl, .inl (cI, 1653, .inl sf))] (fun (r : Int32) (u : (Nat → Int32)) => (SI u v0)) (fun u => [(h, .inr (7, [.ref sl, .int na, .ref zs, .ref ln, .ref ir, .ref tk, .int su, .int le, .ref tb, .int fu, .int ap, .int pp, .ref tr, .int tc, .ref fz, .int nm])), (sl, .inl (cI, 1653, .inl u))]) 0 0 := by
  refine wm_i (cc := cX8_lure) (maxL := 4) (ret := (some .int)) (by decide) rfl (Nat.le_of_ble_eq_true rfl) ?_
  intro p e s m below meth c A ls hx hb hr hml hown hts hlocks hin hP hK hD hN hA hl hS
  have hown : s.vm.findClass RX8 = some m.cls := hown
  have hl : lv_has ls 4 [(0, .ref h), (1, .int v), (2, .int n)] := hl
  change W p l e ({ frames := 6, cells := 0, slots := 0, locals := 146 }) s m ([.ref h, .int v, .int n] : List Value).toArray below meth c s.heap [] 0 0 (MQ below (va_Qi (fun (r : Int32) (u : (Nat → Int32)) => (SI u v0)) (fun u t => wb D A ((fun u => [(h, .inr (7, [.ref sl, .int na, .ref zs, .ref ln, .ref ir, .ref tk, .int su, .int le, .ref tb, .int fu, .int ap, .int pp, .ref tr, .int tc, .ref fz, .int nm])), (sl, .inl (cI, 1653, .inl u))]) u) t) A) ([.ref h, .int v, .int n] : List Value).toArray s 0 0 A) (F0 m 0 ls [])
  refine lv_aload_n hx hb dX8_lure_0 rfl (lv_at hl 0 rfl) ?_
  refine lv_iload_n hx hb dX8_lure_1 rfl (lv_at hl 1 rfl) ?_
  have k_1 := (g_X8_isVillageThere l D cI cB cQ s.heap.size h sl zs ln ir tk tb tr fz na su le fu ap pp tc nm v sf v0 hsi)
  refine wc_i (WC := [(h, .inr (7, [.ref sl, .int na, .ref zs, .ref ln, .ref ir, .ref tk, .int su, .int le, .ref tb, .int fu, .int ap, .int pp, .ref tr, .int tc, .ref fz, .int nm])), (sl, .inl (cI, 1653, .inl sf))]) (WR := []) (va_runV (As := [.int v]) (rest := []) ⟨hx, hb, hml, hown, hts⟩ k_1 (cwV 1 hts gX8_lure_X8_isVillageThere rfl rfl rfl (by decide +kernel) ⟨Nat.le_of_ble_eq_true rfl, Nat.le_of_ble_eq_true rfl⟩) (wp_V hP hK hD hN [0, 1] (by decide) rfl (ci := 7) rfl rfl) rfl rfl hl.1 rfl (lv_room (Nat.le_of_ble_eq_true rfl)) dX8_lure_2 ⟨Nat.le_of_ble_eq_true rfl, Nat.le_of_ble_eq_true rfl⟩) hP hD hS hA [0, 1] [] rfl rfl (by decide) (by decide) (fun r_1 u_1 H locs hw_1 hP hD hS => ?_)
  clear k_1
  have hP : va_P D kl [(h, .inr (7, [.ref sl, .int na, .ref zs, .ref ln, .ref ir, .ref tk, .int su, .int le, .ref tb, .int fu, .int ap, .int pp, .ref tr, .int tc, .ref fz, .int nm])), (sl, .inl (cI, 1653, .inl sf))] H := hP
  have hD : va_D A [(h, .inr (7, [.ref sl, .int na, .ref zs, .ref ln, .ref ir, .ref tk, .int su, .int le, .ref tb, .int fu, .int ap, .int pp, .ref tr, .int tc, .ref fz, .int nm])), (sl, .inl (cI, 1653, .inl sf))] := hD
  have c1_0 := hw_1
  rcases c1_0 with ⟨e_1, f_1⟩ | e_1
  · subst e_1
    have f_1 : 0 ≤ v.toInt ∧ v.toInt ≤ 7 ∧ v.toInt < v0 := f_1
    refine lv_if_eq (tgt := 20) hx hb dX8_lure_5 (by decide) (fun c9 => absurd c9 (by decide)) (fun _ => ?_)
    refine lv_iload_n hx hb dX8_lure_8 rfl (lv_at hl 2 rfl) ?_
    refine lv_i2l (v := (n.toInt64)) hx hb dX8_lure_9 rfl ?_
    refine lv_lconst (v := 1) hx hb dX8_lure_10 (by decide) ?_
    refine lv_ldc2 (v := 100) hx hb hown (hts (.constantLong RX8 160 (100)) (List.mem_of_getElem? (i := 1) rfl)) dX8_lure_11 ?_
    have k_2 := (g_X8_in l D cI cB cQ H.size (n.toInt64) 1 100)
    refine wc_i (WC := []) (WR := [(h, .inr (7, [.ref sl, .int na, .ref zs, .ref ln, .ref ir, .ref tk, .int su, .int le, .ref tb, .int fu, .int ap, .int pp, .ref tr, .int tc, .ref fz, .int nm])), (sl, .inl (cI, 1653, .inl sf))]) (va_runS (As := [.long (n.toInt64), .long 1, .long 100]) (rest := []) ⟨hx, hb, hml, hown, hts⟩ k_2 (va_cwS 3 hts gX8_lure_X8_in rfl rfl rfl (by decide +kernel) ⟨Nat.le_of_ble_eq_true rfl, Nat.le_of_ble_eq_true rfl⟩) (wp_S hP hK hD hN [] (by decide) rfl) rfl rfl hl.1 rfl (lv_room (Nat.le_of_ble_eq_true rfl)) dX8_lure_14 ⟨Nat.le_of_ble_eq_true rfl, Nat.le_of_ble_eq_true rfl⟩) hP hD hS hA [] [0, 1] rfl rfl (by decide) (by decide) (fun r_2 u_2 H locs hw_2 hP hD hS => ?_)
    clear k_2
    have hP : va_P D kl [(h, .inr (7, [.ref sl, .int na, .ref zs, .ref ln, .ref ir, .ref tk, .int su, .int le, .ref tb, .int fu, .int ap, .int pp, .ref tr, .int tc, .ref fz, .int nm])), (sl, .inl (cI, 1653, .inl sf))] H := hP
    have hD : va_D A [(h, .inr (7, [.ref sl, .int na, .ref zs, .ref ln, .ref ir, .ref tk, .int su, .int le, .ref tb, .int fu, .int ap, .int pp, .ref tr, .int tc, .ref fz, .int nm])), (sl, .inl (cI, 1653, .inl sf))] := hD
    have c2_0 := hw_2
    rcases c2_0 with ⟨e_2, f_2⟩ | ⟨e_2, f_2⟩
    · subst e_2
      have f_2 : (1 : Int) ≤ n.toInt ∧ n.toInt ≤ (100 : Int) := by
        have h8 := f_2
        try simp only [zl_of] at h8
        exact h8
      refine lv_if_ne (tgt := 23) hx hb dX8_lure_17 (by decide) (fun _ => ?_) (fun c9 => absurd c9 (by decide))
      refine lv_iconst (v := 0) hx hb dX8_lure_23 (by decide) ?_
      refine lv_istore_n (lv' := [(3, .int 0), (0, .ref h), (1, .int v), (2, .int n)]) hx hb dX8_lure_24 rfl hl (by decide) rfl (fun ls hl => ?_)
      have hL25 : ∀ (nf : Nat) (t3_c25 : Int32) (g0_c25 : Nat → Int32) (H : Heap) (locs : List Loc) (ls : Array Slot), (0 ≤ t3_c25.toInt ∧ t3_c25.toInt ≤ 21) → (SI g0_c25 v0) → (21 - t3_c25.toInt).toNat < nf → va_P D kl [(h, .inr (7, [.ref sl, .int na, .ref zs, .ref ln, .ref ir, .ref tk, .int su, .int le, .ref tb, .int fu, .int ap, .int pp, .ref tr, .int tc, .ref fz, .int nm])), (sl, .inl (cI, 1653, .inl g0_c25))] H → va_D A [(h, .inr (7, [.ref sl, .int na, .ref zs, .ref ln, .ref ir, .ref tk, .int su, .int le, .ref tb, .int fu, .int ap, .int pp, .ref tr, .int tc, .ref fz, .int nm])), (sl, .inl (cI, 1653, .inl g0_c25))] → va_S A s.heap H locs → lv_has ls 4 [(3, .int t3_c25), (0, .ref h), (1, .int v), (2, .int n)] → W p l e ({ frames := 6, cells := 0, slots := 0, locals := 146 }) s m ([.ref h, .int v, .int n] : List Value).toArray below meth c H locs 0 0 (MQ below (va_Qi (fun (r : Int32) (u : (Nat → Int32)) => (SI u v0)) (fun u t => wb D A ((fun u => [(h, .inr (7, [.ref sl, .int na, .ref zs, .ref ln, .ref ir, .ref tk, .int su, .int le, .ref tb, .int fu, .int ap, .int pp, .ref tr, .int tc, .ref fz, .int nm])), (sl, .inl (cI, 1653, .inl u))]) u) t) A) ([.ref h, .int v, .int n] : List Value).toArray s 0 0 A) (F0 m 25 ls []) := by
        intro nf
        induction nf with
        | zero =>
          intro t3_c25 g0_c25 H locs ls i_t3_c25 ha_g0_c25 hm
          exact absurd hm (Nat.not_lt_zero _)
        | succ nf ih25 =>
          intro t3_c25 g0_c25 H locs ls i_t3_c25 ha_g0_c25 hm25 hP hD hS hl
          refine lv_iload_n hx hb dX8_lure_25 rfl (lv_at hl 0 rfl) ?_
          refine lv_bipush (v := 21) hx hb dX8_lure_26 (by decide) ?_
          refine lv_icmp_ge (tgt := 66) hx hb dX8_lure_28 (by decide) (fun c_3 => ?_) (fun c_3 => ?_)
          · have f_3 : 21 ≤ t3_c25.toInt := zi_le c_3
            refine lv_ldc (v := (-1000000)) hx hb hown (hts (.constant RX8 99 (-1000000)) (List.mem_of_getElem? (i := 4) rfl)) dX8_lure_66 ?_
            exact wr_i (v := (-1000000)) hx hb hr hlocks hS g0_c25 (by exact ha_g0_c25) (hP.sub [0, 1] rfl) (hD.sub [0, 1] (by decide) rfl) dX8_lure_68
          · have f_3 : ¬ 21 ≤ t3_c25.toInt := zi_nle c_3
            refine lv_aload_n hx hb dX8_lure_31 rfl (lv_at hl 1 rfl) ?_
            refine lv_iconst (v := 0) hx hb dX8_lure_32 (by decide) ?_
            refine lv_bipush (v := 27) hx hb dX8_lure_33 (by decide) ?_
            have k_4 := (g_X8_copies l D cI cB cQ H.size h sl zs ln ir tk tb tr fz na su le fu ap pp tc nm 0 27 g0_c25 v0 ha_g0_c25 ⟨by decide, by decide⟩ ⟨by decide, by decide⟩)
            refine wc_v (WC := [(h, .inr (7, [.ref sl, .int na, .ref zs, .ref ln, .ref ir, .ref tk, .int su, .int le, .ref tb, .int fu, .int ap, .int pp, .ref tr, .int tc, .ref fz, .int nm])), (sl, .inl (cI, 1653, .inl g0_c25))]) (WR := []) (va_runV (As := [.int 0, .int 27]) (rest := []) ⟨hx, hb, hml, hown, hts⟩ k_4 (cwV 2 hts gX8_lure_X8_copies rfl rfl rfl (by decide +kernel) ⟨Nat.le_of_ble_eq_true rfl, Nat.le_of_ble_eq_true rfl⟩) (wp_V hP hK hD hN [0, 1] (by decide) rfl (ci := 7) rfl rfl) rfl rfl hl.1 rfl (lv_room (Nat.le_of_ble_eq_true rfl)) dX8_lure_35 ⟨Nat.le_of_ble_eq_true rfl, Nat.le_of_ble_eq_true rfl⟩) hP hD hS hA [0, 1] [] rfl rfl (by decide) (by decide) (fun u_4 H locs hw_4 hP hD hS => ?_)
            clear k_4
            have hP : va_P D kl [(h, .inr (7, [.ref sl, .int na, .ref zs, .ref ln, .ref ir, .ref tk, .int su, .int le, .ref tb, .int fu, .int ap, .int pp, .ref tr, .int tc, .ref fz, .int nm])), (sl, .inl (cI, 1653, .inl u_4))] H := hP
            have hD : va_D A [(h, .inr (7, [.ref sl, .int na, .ref zs, .ref ln, .ref ir, .ref tk, .int su, .int le, .ref tb, .int fu, .int ap, .int pp, .ref tr, .int tc, .ref fz, .int nm])), (sl, .inl (cI, 1653, .inl u_4))] := hD
            have c4_0 := hw_4
            have c4_0 : SI u_4 v0 := c4_0
            refine lv_aload_n hx hb dX8_lure_38 rfl (lv_at hl 1 rfl) ?_
            refine va_get (D := D) (ci := 7) (v := .ref sl) (C := RX8) (T := TX8) (N := 16) hx hb hts (fun _ h => List.mem_cons_of_mem _ (List.mem_append_right _ h)) hown hK hP 0 rfl rfl 0 (by decide) (hts (.fieldLink RX8 7 "WinterWalkModel" "slot" "[I") (List.mem_of_getElem? (i := 3) rfl)) (fun _ h9 => h9) rfl dX8_lure_39 ?_
            refine lv_sipush (v := 1562) hx hb dX8_lure_42 (by decide) ?_
            refine lv_iload_n hx hb dX8_lure_45 rfl (lv_at hl 2 rfl) ?_
            refine lv_iadd hx hb dX8_lure_46 ?_
            refine lv_topi (fun x_5 ex_5 => ?_)
            have e_5 : x_5.toInt = 1562 + v.toInt := by rw [ex_5]; exact zi_add (by decide) (rfl) (by omega) (by omega)
            clear ex_5
            refine lv_iload_n hx hb dX8_lure_47 rfl (lv_at hl 0 rfl) ?_
            refine va_iast hx hb hK hP hD hS 1 0 rfl rfl (zi_in (by omega) (by omega)) dX8_lure_48 (fun H locs hP hD hS => ?_)
            have hP : va_P D kl [(h, .inr (7, [.ref sl, .int na, .ref zs, .ref ln, .ref ir, .ref tk, .int su, .int le, .ref tb, .int fu, .int ap, .int pp, .ref tr, .int tc, .ref fz, .int nm])), (sl, .inl (cI, 1653, .inl (upd u_4 (x_5 : Int32).toNatClampNeg t3_c25)))] H := hP
            have hD : va_D A [(h, .inr (7, [.ref sl, .int na, .ref zs, .ref ln, .ref ir, .ref tk, .int su, .int le, .ref tb, .int fu, .int ap, .int pp, .ref tr, .int tc, .ref fz, .int nm])), (sl, .inl (cI, 1653, .inl (upd u_4 (x_5 : Int32).toNatClampNeg t3_c25)))] := hD
            have ha_6 : SI (upd u_4 (x_5 : Int32).toNatClampNeg t3_c25) v0 := si_up c4_0 (by omega) (fun s0 a0 b0 e0 => by omega) (fun s0 a0 b0 e0 => by omega) (fun s0 k0 a0 b0 c0 d0 e0 => by omega) (by omega)
            refine lv_aload_n hx hb dX8_lure_49 rfl (lv_at hl 1 rfl) ?_
            refine lv_iload_n hx hb dX8_lure_50 rfl (lv_at hl 2 rfl) ?_
            refine lv_iload_n hx hb dX8_lure_51 rfl (lv_at hl 3 rfl) ?_
            have k_7 := (g_X8_isSlept l D cI cB cQ H.size h sl zs ln ir tk tb tr fz na su le fu ap pp tc nm v n (upd u_4 (x_5 : Int32).toNatClampNeg t3_c25) v0 ha_6 (by omega) (by omega))
            refine wc_i (WC := [(h, .inr (7, [.ref sl, .int na, .ref zs, .ref ln, .ref ir, .ref tk, .int su, .int le, .ref tb, .int fu, .int ap, .int pp, .ref tr, .int tc, .ref fz, .int nm])), (sl, .inl (cI, 1653, .inl (upd u_4 (x_5 : Int32).toNatClampNeg t3_c25)))]) (WR := []) (va_runV (As := [.int v, .int n]) (rest := []) ⟨hx, hb, hml, hown, hts⟩ k_7 (cwV 2 hts gX8_lure_X8_isSlept rfl rfl rfl (by decide +kernel) ⟨Nat.le_of_ble_eq_true rfl, Nat.le_of_ble_eq_true rfl⟩) (wp_V hP hK hD hN [0, 1] (by decide) rfl (ci := 7) rfl rfl) rfl rfl hl.1 rfl (lv_room (Nat.le_of_ble_eq_true rfl)) dX8_lure_52 ⟨Nat.le_of_ble_eq_true rfl, Nat.le_of_ble_eq_true rfl⟩) hP hD hS hA [0, 1] [] rfl rfl (by decide) (by decide) (fun r_7 u_7 H locs hw_7 hP hD hS => ?_)
            clear k_7
            have hP : va_P D kl [(h, .inr (7, [.ref sl, .int na, .ref zs, .ref ln, .ref ir, .ref tk, .int su, .int le, .ref tb, .int fu, .int ap, .int pp, .ref tr, .int tc, .ref fz, .int nm])), (sl, .inl (cI, 1653, .inl u_7))] H := hP
            have hD : va_D A [(h, .inr (7, [.ref sl, .int na, .ref zs, .ref ln, .ref ir, .ref tk, .int su, .int le, .ref tb, .int fu, .int ap, .int pp, .ref tr, .int tc, .ref fz, .int nm])), (sl, .inl (cI, 1653, .inl u_7))] := hD
            obtain ⟨c7_0, c7_1⟩ := hw_7
            have c7_1 : SI u_7 v0 := c7_1
            rcases c7_0 with e_7 | e_7
            · subst e_7
              refine lv_if_eq (tgt := 60) hx hb dX8_lure_55 (by decide) (fun c9 => absurd c9 (by decide)) (fun _ => ?_)
              refine lv_iload_n hx hb dX8_lure_58 rfl (lv_at hl 0 rfl) ?_
              exact wr_i (v := t3_c25) hx hb hr hlocks hS u_7 (by exact c7_1) (hP.sub [0, 1] rfl) (hD.sub [0, 1] (by decide) rfl) dX8_lure_59
            · subst e_7
              refine lv_if_eq (tgt := 60) hx hb dX8_lure_55 (by decide) (fun _ => ?_) (fun c9 => absurd (by decide) c9)
              obtain ⟨x_8, ex_8⟩ : ∃ y : Int32, y = t3_c25 + Int32.ofInt 1 := ⟨_, rfl⟩
              refine lv_iinc (v := x_8) (lv' := [(3, .int x_8), (0, .ref h), (1, .int v), (2, .int n)]) hx hb dX8_lure_60 hl (k := 0) rfl ex_8.symm (by decide) rfl (fun ls hl => ?_)
              have ex_8 : x_8 = t3_c25 + 1 := ex_8
              have e_8 : x_8.toInt = t3_c25.toInt + 1 := by rw [ex_8]; exact zi_add (rfl) (by decide) (by omega) (by omega)
              clear ex_8
              refine lv_goto (tgt := 25) hx hb dX8_lure_63 (by decide) ?_
              exact ih25 x_8 u_7 _ _ _ (show 0 ≤ x_8.toInt ∧ x_8.toInt ≤ 21 from by omega) c7_1 (by omega) (hP.sub [0, 1] rfl) (hD.sub [0, 1] (by decide) rfl) hS (lv_sub hl [0, 1, 2, 3] rfl)
      exact hL25 (((21 - (0 : Int32).toInt).toNat) + 1) 0 sf _ _ _ (show 0 ≤ 0 ∧ 0 ≤ 21 from by omega) hsi (Nat.lt_succ_self _) (hP.sub [0, 1] rfl) (hD.sub [0, 1] (by decide) rfl) hS (lv_sub hl [0, 1, 2, 3] rfl)
    · subst e_2
      have f_2 : ¬ ((1 : Int) ≤ n.toInt ∧ n.toInt ≤ (100 : Int)) := by
        have h8 := f_2
        try simp only [zl_of] at h8
        exact h8
      refine lv_if_ne (tgt := 23) hx hb dX8_lure_17 (by decide) (fun c9 => absurd (by decide) c9) (fun _ => ?_)
      refine lv_ldc (v := (-1000001)) hx hb hown (hts (.constant RX8 48 (-1000001)) (List.mem_of_getElem? (i := 2) rfl)) dX8_lure_20 ?_
      exact wr_i (v := (-1000001)) hx hb hr hlocks hS sf (by exact hsi) (hP.sub [0, 1] rfl) (hD.sub [0, 1] (by decide) rfl) dX8_lure_22
  · subst e_1
    refine lv_if_eq (tgt := 20) hx hb dX8_lure_5 (by decide) (fun _ => ?_) (fun c9 => absurd (by decide) c9)
    refine lv_ldc (v := (-1000001)) hx hb hown (hts (.constant RX8 48 (-1000001)) (List.mem_of_getElem? (i := 2) rfl)) dX8_lure_20 ?_
    exact wr_i (v := (-1000001)) hx hb hr hlocks hS sf (by exact hsi) (hP.sub [0, 1] rfl) (hD.sub [0, 1] (by decide) rfl) dX8_lure_22
set_option maxHeartbeats 4000000 in
set_option maxRecDepth 100000 in
theorem g_X8_keepsAway (l : Launch) (D : va_G) (cI cB cQ : ClassId) (sz : Nat) (h : Nat) (sl : Nat) (zs : Nat) (ln : Nat) (ir : Nat) (tk : Nat) (tb : Nat) (tr : Nat) (fz : Nat) (na : Int32) (su : Int32) (le : Int32) (fu : Int32) (ap : Int32) (pp : Int32) (tc : Int32) (nm : Int32) (v : Int32) (n : Int32) (k : Int32) (sf : Nat → Int32) (v0 : Int) (hsi : SI sf v0) : mi l yX8_keepsAway wsX8_keepsAway ({ frames := 6, cells := 0, slots := 0, locals := 146 }) D cI cB cQ [.ref h, .int v, .int n, .int k] sz [(h, .inr (7, [.ref sl, .int na, .ref zs, .ref ln, .ref ir, .ref tk, .int su, .int le, .ref tb, .int fu, .int ap, .int pp, .ref tr, .int tc, .ref fz, .int nm])), (sl, .inl (cI, 1653, .inl sf))] (fun (r : Int32) (u : (Nat → Int32)) => (SI u v0)) (fun u => [(h, .inr (7, [.ref sl, .int na, .ref zs, .ref ln, .ref ir, .ref tk, .int su, .int le, .ref tb, .int fu, .int ap, .int pp, .ref tr, .int tc, .ref fz, .int nm])), (sl, .inl (cI, 1653, .inl u))]) 0 0 := by
  refine wm_i (cc := cX8_keepsAway) (maxL := 6) (ret := (some .int)) (by decide) rfl (Nat.le_of_ble_eq_true rfl) ?_
  intro p e s m below meth c A ls hx hb hr hml hown hts hlocks hin hP hK hD hN hA hl hS
  have hown : s.vm.findClass RX8 = some m.cls := hown
  have hl : lv_has ls 6 [(0, .ref h), (1, .int v), (2, .int n), (3, .int k)] := hl
  change W p l e ({ frames := 6, cells := 0, slots := 0, locals := 146 }) s m ([.ref h, .int v, .int n, .int k] : List Value).toArray below meth c s.heap [] 0 0 (MQ below (va_Qi (fun (r : Int32) (u : (Nat → Int32)) => (SI u v0)) (fun u t => wb D A ((fun u => [(h, .inr (7, [.ref sl, .int na, .ref zs, .ref ln, .ref ir, .ref tk, .int su, .int le, .ref tb, .int fu, .int ap, .int pp, .ref tr, .int tc, .ref fz, .int nm])), (sl, .inl (cI, 1653, .inl u))]) u) t) A) ([.ref h, .int v, .int n, .int k] : List Value).toArray s 0 0 A) (F0 m 0 ls [])
  refine lv_aload_n hx hb dX8_keepsAway_0 rfl (lv_at hl 0 rfl) ?_
  refine lv_iload_n hx hb dX8_keepsAway_1 rfl (lv_at hl 1 rfl) ?_
  have k_1 := (g_X8_isVillageThere l D cI cB cQ s.heap.size h sl zs ln ir tk tb tr fz na su le fu ap pp tc nm v sf v0 hsi)
  refine wc_i (WC := [(h, .inr (7, [.ref sl, .int na, .ref zs, .ref ln, .ref ir, .ref tk, .int su, .int le, .ref tb, .int fu, .int ap, .int pp, .ref tr, .int tc, .ref fz, .int nm])), (sl, .inl (cI, 1653, .inl sf))]) (WR := []) (va_runV (As := [.int v]) (rest := []) ⟨hx, hb, hml, hown, hts⟩ k_1 (cwV 1 hts gX8_keepsAway_X8_isVillageThere rfl rfl rfl (by decide +kernel) ⟨Nat.le_of_ble_eq_true rfl, Nat.le_of_ble_eq_true rfl⟩) (wp_V hP hK hD hN [0, 1] (by decide) rfl (ci := 7) rfl rfl) rfl rfl hl.1 rfl (lv_room (Nat.le_of_ble_eq_true rfl)) dX8_keepsAway_2 ⟨Nat.le_of_ble_eq_true rfl, Nat.le_of_ble_eq_true rfl⟩) hP hD hS hA [0, 1] [] rfl rfl (by decide) (by decide) (fun r_1 u_1 H locs hw_1 hP hD hS => ?_)
  clear k_1
  have hP : va_P D kl [(h, .inr (7, [.ref sl, .int na, .ref zs, .ref ln, .ref ir, .ref tk, .int su, .int le, .ref tb, .int fu, .int ap, .int pp, .ref tr, .int tc, .ref fz, .int nm])), (sl, .inl (cI, 1653, .inl sf))] H := hP
  have hD : va_D A [(h, .inr (7, [.ref sl, .int na, .ref zs, .ref ln, .ref ir, .ref tk, .int su, .int le, .ref tb, .int fu, .int ap, .int pp, .ref tr, .int tc, .ref fz, .int nm])), (sl, .inl (cI, 1653, .inl sf))] := hD
  have c1_0 := hw_1
  rcases c1_0 with ⟨e_1, f_1⟩ | e_1
  · subst e_1
    have f_1 : 0 ≤ v.toInt ∧ v.toInt ≤ 7 ∧ v.toInt < v0 := f_1
    refine lv_if_eq (tgt := 30) hx hb dX8_keepsAway_5 (by decide) (fun c9 => absurd c9 (by decide)) (fun _ => ?_)
    refine lv_iload_n hx hb dX8_keepsAway_8 rfl (lv_at hl 2 rfl) ?_
    refine lv_i2l (v := (n.toInt64)) hx hb dX8_keepsAway_9 rfl ?_
    refine lv_lconst (v := 1) hx hb dX8_keepsAway_10 (by decide) ?_
    refine lv_ldc2 (v := 100) hx hb hown (hts (.constantLong RX8 160 (100)) (List.mem_of_getElem? (i := 1) rfl)) dX8_keepsAway_11 ?_
    have k_2 := (g_X8_in l D cI cB cQ H.size (n.toInt64) 1 100)
    refine wc_i (WC := []) (WR := [(h, .inr (7, [.ref sl, .int na, .ref zs, .ref ln, .ref ir, .ref tk, .int su, .int le, .ref tb, .int fu, .int ap, .int pp, .ref tr, .int tc, .ref fz, .int nm])), (sl, .inl (cI, 1653, .inl sf))]) (va_runS (As := [.long (n.toInt64), .long 1, .long 100]) (rest := []) ⟨hx, hb, hml, hown, hts⟩ k_2 (va_cwS 3 hts gX8_keepsAway_X8_in rfl rfl rfl (by decide +kernel) ⟨Nat.le_of_ble_eq_true rfl, Nat.le_of_ble_eq_true rfl⟩) (wp_S hP hK hD hN [] (by decide) rfl) rfl rfl hl.1 rfl (lv_room (Nat.le_of_ble_eq_true rfl)) dX8_keepsAway_14 ⟨Nat.le_of_ble_eq_true rfl, Nat.le_of_ble_eq_true rfl⟩) hP hD hS hA [] [0, 1] rfl rfl (by decide) (by decide) (fun r_2 u_2 H locs hw_2 hP hD hS => ?_)
    clear k_2
    have hP : va_P D kl [(h, .inr (7, [.ref sl, .int na, .ref zs, .ref ln, .ref ir, .ref tk, .int su, .int le, .ref tb, .int fu, .int ap, .int pp, .ref tr, .int tc, .ref fz, .int nm])), (sl, .inl (cI, 1653, .inl sf))] H := hP
    have hD : va_D A [(h, .inr (7, [.ref sl, .int na, .ref zs, .ref ln, .ref ir, .ref tk, .int su, .int le, .ref tb, .int fu, .int ap, .int pp, .ref tr, .int tc, .ref fz, .int nm])), (sl, .inl (cI, 1653, .inl sf))] := hD
    have c2_0 := hw_2
    rcases c2_0 with ⟨e_2, f_2⟩ | ⟨e_2, f_2⟩
    · subst e_2
      have f_2 : (1 : Int) ≤ n.toInt ∧ n.toInt ≤ (100 : Int) := by
        have h8 := f_2
        try simp only [zl_of] at h8
        exact h8
      refine lv_if_eq (tgt := 30) hx hb dX8_keepsAway_17 (by decide) (fun c9 => absurd c9 (by decide)) (fun _ => ?_)
      refine lv_iload_n hx hb dX8_keepsAway_20 rfl (lv_at hl 3 rfl) ?_
      refine lv_i2l (v := (k.toInt64)) hx hb dX8_keepsAway_21 rfl ?_
      refine lv_lconst (v := 0) hx hb dX8_keepsAway_22 (by decide) ?_
      refine lv_lconst (v := 1) hx hb dX8_keepsAway_23 (by decide) ?_
      have k_3 := (g_X8_in l D cI cB cQ H.size (k.toInt64) 0 1)
      refine wc_i (WC := []) (WR := [(h, .inr (7, [.ref sl, .int na, .ref zs, .ref ln, .ref ir, .ref tk, .int su, .int le, .ref tb, .int fu, .int ap, .int pp, .ref tr, .int tc, .ref fz, .int nm])), (sl, .inl (cI, 1653, .inl sf))]) (va_runS (As := [.long (k.toInt64), .long 0, .long 1]) (rest := []) ⟨hx, hb, hml, hown, hts⟩ k_3 (va_cwS 3 hts gX8_keepsAway_X8_in rfl rfl rfl (by decide +kernel) ⟨Nat.le_of_ble_eq_true rfl, Nat.le_of_ble_eq_true rfl⟩) (wp_S hP hK hD hN [] (by decide) rfl) rfl rfl hl.1 rfl (lv_room (Nat.le_of_ble_eq_true rfl)) dX8_keepsAway_24 ⟨Nat.le_of_ble_eq_true rfl, Nat.le_of_ble_eq_true rfl⟩) hP hD hS hA [] [0, 1] rfl rfl (by decide) (by decide) (fun r_3 u_3 H locs hw_3 hP hD hS => ?_)
      clear k_3
      have hP : va_P D kl [(h, .inr (7, [.ref sl, .int na, .ref zs, .ref ln, .ref ir, .ref tk, .int su, .int le, .ref tb, .int fu, .int ap, .int pp, .ref tr, .int tc, .ref fz, .int nm])), (sl, .inl (cI, 1653, .inl sf))] H := hP
      have hD : va_D A [(h, .inr (7, [.ref sl, .int na, .ref zs, .ref ln, .ref ir, .ref tk, .int su, .int le, .ref tb, .int fu, .int ap, .int pp, .ref tr, .int tc, .ref fz, .int nm])), (sl, .inl (cI, 1653, .inl sf))] := hD
      have c3_0 := hw_3
      rcases c3_0 with ⟨e_3, f_3⟩ | ⟨e_3, f_3⟩
      · subst e_3
        have f_3 : (0 : Int) ≤ k.toInt ∧ k.toInt ≤ (1 : Int) := by
          have h8 := f_3
          try simp only [zl_of] at h8
          exact h8
        refine lv_if_ne (tgt := 33) hx hb dX8_keepsAway_27 (by decide) (fun _ => ?_) (fun c9 => absurd c9 (by decide))
        refine lv_iconst (v := 0) hx hb dX8_keepsAway_33 (by decide) ?_
        refine lv_istore (lv' := [(4, .int 0), (0, .ref h), (1, .int v), (2, .int n), (3, .int k)]) hx hb dX8_keepsAway_34 hl (by decide) rfl (fun ls hl => ?_)
        have hL36 : ∀ (nf : Nat) (t4_c36 : Int32) (g0_c36 : Nat → Int32) (H : Heap) (locs : List Loc) (ls : Array Slot), (0 ≤ t4_c36.toInt ∧ t4_c36.toInt ≤ 4) → (SI g0_c36 v0) → (4 - t4_c36.toInt).toNat < nf → va_P D kl [(h, .inr (7, [.ref sl, .int na, .ref zs, .ref ln, .ref ir, .ref tk, .int su, .int le, .ref tb, .int fu, .int ap, .int pp, .ref tr, .int tc, .ref fz, .int nm])), (sl, .inl (cI, 1653, .inl g0_c36))] H → va_D A [(h, .inr (7, [.ref sl, .int na, .ref zs, .ref ln, .ref ir, .ref tk, .int su, .int le, .ref tb, .int fu, .int ap, .int pp, .ref tr, .int tc, .ref fz, .int nm])), (sl, .inl (cI, 1653, .inl g0_c36))] → va_S A s.heap H locs → lv_has ls 6 [(4, .int t4_c36), (0, .ref h), (1, .int v), (2, .int n), (3, .int k)] → W p l e ({ frames := 6, cells := 0, slots := 0, locals := 146 }) s m ([.ref h, .int v, .int n, .int k] : List Value).toArray below meth c H locs 0 0 (MQ below (va_Qi (fun (r : Int32) (u : (Nat → Int32)) => (SI u v0)) (fun u t => wb D A ((fun u => [(h, .inr (7, [.ref sl, .int na, .ref zs, .ref ln, .ref ir, .ref tk, .int su, .int le, .ref tb, .int fu, .int ap, .int pp, .ref tr, .int tc, .ref fz, .int nm])), (sl, .inl (cI, 1653, .inl u))]) u) t) A) ([.ref h, .int v, .int n, .int k] : List Value).toArray s 0 0 A) (F0 m 36 ls []) := by
          intro nf
          induction nf with
          | zero =>
            intro t4_c36 g0_c36 H locs ls i_t4_c36 ha_g0_c36 hm
            exact absurd hm (Nat.not_lt_zero _)
          | succ nf ih36 =>
            intro t4_c36 g0_c36 H locs ls i_t4_c36 ha_g0_c36 hm36 hP hD hS hl
            refine lv_iload hx hb dX8_keepsAway_36 (lv_at hl 0 rfl) ?_
            refine lv_iconst (v := 4) hx hb dX8_keepsAway_38 (by decide) ?_
            refine lv_icmp_ge (tgt := 134) hx hb dX8_keepsAway_39 (by decide) (fun c_4 => ?_) (fun c_4 => ?_)
            · have f_4 : 4 ≤ t4_c36.toInt := zi_le c_4
              refine lv_ldc (v := (-1000000)) hx hb hown (hts (.constant RX8 99 (-1000000)) (List.mem_of_getElem? (i := 4) rfl)) dX8_keepsAway_134 ?_
              exact wr_i (v := (-1000000)) hx hb hr hlocks hS g0_c36 (by exact ha_g0_c36) (hP.sub [0, 1] rfl) (hD.sub [0, 1] (by decide) rfl) dX8_keepsAway_136
            · have f_4 : ¬ 4 ≤ t4_c36.toInt := zi_nle c_4
              refine lv_iconst (v := 0) hx hb dX8_keepsAway_42 (by decide) ?_
              refine lv_istore (lv' := [(5, .int 0), (4, .int t4_c36), (0, .ref h), (1, .int v), (2, .int n), (3, .int k)]) hx hb dX8_keepsAway_43 hl (by decide) rfl (fun ls hl => ?_)
              have hL45 : ∀ (nf : Nat) (t5_c45 : Int32) (g0_c45 : Nat → Int32) (H : Heap) (locs : List Loc) (ls : Array Slot), (0 ≤ t5_c45.toInt ∧ t5_c45.toInt ≤ 256) → (SI g0_c45 v0) → (256 - t5_c45.toInt).toNat < nf → va_P D kl [(h, .inr (7, [.ref sl, .int na, .ref zs, .ref ln, .ref ir, .ref tk, .int su, .int le, .ref tb, .int fu, .int ap, .int pp, .ref tr, .int tc, .ref fz, .int nm])), (sl, .inl (cI, 1653, .inl g0_c45))] H → va_D A [(h, .inr (7, [.ref sl, .int na, .ref zs, .ref ln, .ref ir, .ref tk, .int su, .int le, .ref tb, .int fu, .int ap, .int pp, .ref tr, .int tc, .ref fz, .int nm])), (sl, .inl (cI, 1653, .inl g0_c45))] → va_S A s.heap H locs → lv_has ls 6 [(5, .int t5_c45), (4, .int t4_c36), (0, .ref h), (1, .int v), (2, .int n), (3, .int k)] → W p l e ({ frames := 6, cells := 0, slots := 0, locals := 146 }) s m ([.ref h, .int v, .int n, .int k] : List Value).toArray below meth c H locs 0 0 (MQ below (va_Qi (fun (r : Int32) (u : (Nat → Int32)) => (SI u v0)) (fun u t => wb D A ((fun u => [(h, .inr (7, [.ref sl, .int na, .ref zs, .ref ln, .ref ir, .ref tk, .int su, .int le, .ref tb, .int fu, .int ap, .int pp, .ref tr, .int tc, .ref fz, .int nm])), (sl, .inl (cI, 1653, .inl u))]) u) t) A) ([.ref h, .int v, .int n, .int k] : List Value).toArray s 0 0 A) (F0 m 45 ls []) := by
                intro nf
                induction nf with
                | zero =>
                  intro t5_c45 g0_c45 H locs ls i_t5_c45 ha_g0_c45 hm
                  exact absurd hm (Nat.not_lt_zero _)
                | succ nf ih45 =>
                  intro t5_c45 g0_c45 H locs ls i_t5_c45 ha_g0_c45 hm45 hP hD hS hl
                  refine lv_iload hx hb dX8_keepsAway_45 (lv_at hl 0 rfl) ?_
                  refine lv_iconst (v := 1) hx hb dX8_keepsAway_47 (by decide) ?_
                  refine lv_aload_n hx hb dX8_keepsAway_48 rfl (lv_at hl 2 rfl) ?_
                  refine va_get (D := D) (ci := 7) (v := .ref sl) (C := RX8) (T := TX8) (N := 16) hx hb hts (fun _ h => List.mem_cons_of_mem _ (List.mem_append_right _ h)) hown hK hP 0 rfl rfl 0 (by decide) (hts (.fieldLink RX8 7 "WinterWalkModel" "slot" "[I") (List.mem_of_getElem? (i := 3) rfl)) (fun _ h9 => h9) rfl dX8_keepsAway_49 ?_
                  refine lv_iconst (v := 1) hx hb dX8_keepsAway_52 (by decide) ?_
                  refine va_iald hx hb hK hP 1 0 rfl rfl (zi_in (by decide) (by decide)) dX8_keepsAway_53 ?_
                  refine lv_topi (fun x_5 ex_5 => ?_)
                  have f_5 : 0 ≤ x_5.toInt ∧ x_5.toInt ≤ 8 := by rw [ex_5]; exact si_v ha_g0_c45 (s := 0) (by decide) (by omega)
                  have g_5 : x_5.toInt = v0 := by rw [ex_5]; exact ha_g0_c45.2
                  refine lv_ishl hx hb dX8_keepsAway_54 ?_
                  refine lv_topi (fun x_6 ex_6 => ?_)
                  have e_6 : 1 ≤ x_6.toInt ∧ x_6.toInt ≤ 256 := by rw [ex_6]; exact zi_sh (by omega)
                  clear ex_6
                  refine lv_icmp_ge (tgt := 128) hx hb dX8_keepsAway_55 (by decide) (fun c_7 => ?_) (fun c_7 => ?_)
                  · have f_7 : x_6.toInt ≤ t5_c45.toInt := zi_le c_7
                    obtain ⟨x_8, ex_8⟩ : ∃ y : Int32, y = t4_c36 + Int32.ofInt 1 := ⟨_, rfl⟩
                    refine lv_iinc (v := x_8) (lv' := [(4, .int x_8), (5, .int t5_c45), (0, .ref h), (1, .int v), (2, .int n), (3, .int k)]) hx hb dX8_keepsAway_128 hl (k := 1) rfl ex_8.symm (by decide) rfl (fun ls hl => ?_)
                    have ex_8 : x_8 = t4_c36 + 1 := ex_8
                    have e_8 : x_8.toInt = t4_c36.toInt + 1 := by rw [ex_8]; exact zi_add (rfl) (by decide) (by omega) (by omega)
                    clear ex_8
                    refine lv_goto (tgt := 36) hx hb dX8_keepsAway_131 (by decide) ?_
                    exact ih36 x_8 g0_c45 _ _ _ (show 0 ≤ x_8.toInt ∧ x_8.toInt ≤ 4 from by omega) ha_g0_c45 (by omega) (hP.sub [0, 1] rfl) (hD.sub [0, 1] (by decide) rfl) hS (lv_sub hl [0, 2, 3, 4, 5] rfl)
                  · have f_7 : ¬ x_6.toInt ≤ t5_c45.toInt := zi_nle c_7
                    refine lv_iload hx hb dX8_keepsAway_58 (lv_at hl 0 rfl) ?_
                    have k_9 := (g_X8_many l D cI cB cQ H.size t5_c45)
                    refine wc_i (WC := []) (WR := [(h, .inr (7, [.ref sl, .int na, .ref zs, .ref ln, .ref ir, .ref tk, .int su, .int le, .ref tb, .int fu, .int ap, .int pp, .ref tr, .int tc, .ref fz, .int nm])), (sl, .inl (cI, 1653, .inl g0_c45))]) (va_runS (As := [.int t5_c45]) (rest := []) ⟨hx, hb, hml, hown, hts⟩ k_9 (va_cwS 1 hts gX8_keepsAway_X8_many rfl rfl rfl (by decide +kernel) ⟨Nat.le_of_ble_eq_true rfl, Nat.le_of_ble_eq_true rfl⟩) (wp_S hP hK hD hN [] (by decide) rfl) rfl rfl hl.1 rfl (lv_room (Nat.le_of_ble_eq_true rfl)) dX8_keepsAway_60 ⟨Nat.le_of_ble_eq_true rfl, Nat.le_of_ble_eq_true rfl⟩) hP hD hS hA [] [0, 1] rfl rfl (by decide) (by decide) (fun r_9 u_9 H locs hw_9 hP hD hS => ?_)
                    clear k_9
                    have hP : va_P D kl [(h, .inr (7, [.ref sl, .int na, .ref zs, .ref ln, .ref ir, .ref tk, .int su, .int le, .ref tb, .int fu, .int ap, .int pp, .ref tr, .int tc, .ref fz, .int nm])), (sl, .inl (cI, 1653, .inl g0_c45))] H := hP
                    have hD : va_D A [(h, .inr (7, [.ref sl, .int na, .ref zs, .ref ln, .ref ir, .ref tk, .int su, .int le, .ref tb, .int fu, .int ap, .int pp, .ref tr, .int tc, .ref fz, .int nm])), (sl, .inl (cI, 1653, .inl g0_c45))] := hD
                    clear hw_9
                    refine lv_iload hx hb dX8_keepsAway_63 (lv_at hl 1 rfl) ?_
                    refine lv_icmp_ne (tgt := 122) hx hb dX8_keepsAway_65 (by decide) (fun c_10 => ?_) (fun c_10 => ?_)
                    · have f_10 : ¬ r_9.toInt = t4_c36.toInt := zi_ne c_10
                      obtain ⟨x_11, ex_11⟩ : ∃ y : Int32, y = t5_c45 + Int32.ofInt 1 := ⟨_, rfl⟩
                      refine lv_iinc (v := x_11) (lv' := [(5, .int x_11), (4, .int t4_c36), (0, .ref h), (1, .int v), (2, .int n), (3, .int k)]) hx hb dX8_keepsAway_122 hl (k := 0) rfl ex_11.symm (by decide) rfl (fun ls hl => ?_)
                      have ex_11 : x_11 = t5_c45 + 1 := ex_11
                      have e_11 : x_11.toInt = t5_c45.toInt + 1 := by rw [ex_11]; exact zi_add (rfl) (by decide) (by omega) (by omega)
                      clear ex_11
                      refine lv_goto (tgt := 45) hx hb dX8_keepsAway_125 (by decide) ?_
                      exact ih45 x_11 g0_c45 _ _ _ (show 0 ≤ x_11.toInt ∧ x_11.toInt ≤ 256 from by omega) ha_g0_c45 (by omega) (hP.sub [0, 1] rfl) (hD.sub [0, 1] (by decide) rfl) hS (lv_sub hl [0, 1, 2, 3, 4, 5] rfl)
                    · have f_10 : r_9.toInt = t4_c36.toInt := zi_eq c_10
                      refine lv_iload hx hb dX8_keepsAway_68 (lv_at hl 0 rfl) ?_
                      refine lv_aload_n hx hb dX8_keepsAway_70 rfl (lv_at hl 2 rfl) ?_
                      refine va_get (D := D) (ci := 7) (v := .ref sl) (C := RX8) (T := TX8) (N := 16) hx hb hts (fun _ h => List.mem_cons_of_mem _ (List.mem_append_right _ h)) hown hK hP 0 rfl rfl 0 (by decide) (hts (.fieldLink RX8 7 "WinterWalkModel" "slot" "[I") (List.mem_of_getElem? (i := 3) rfl)) (fun _ h9 => h9) rfl dX8_keepsAway_71 ?_
                      refine lv_bipush (v := 31) hx hb dX8_keepsAway_74 (by decide) ?_
                      refine va_iald hx hb hK hP 1 0 rfl rfl (zi_in (by decide) (by decide)) dX8_keepsAway_76 ?_
                      refine lv_topi (fun x_12 ex_12 => ?_)
                      refine lv_iand hx hb dX8_keepsAway_77 ?_
                      refine lv_topi (fun x_13 ex_13 => ?_)
                      clear ex_13
                      refine lv_if_ne (tgt := 122) hx hb dX8_keepsAway_78 (by decide) (fun c_14 => ?_) (fun c_14 => ?_)
                      · have f_14 : ¬ x_13.toInt = 0 := zi_ne c_14
                        obtain ⟨x_15, ex_15⟩ : ∃ y : Int32, y = t5_c45 + Int32.ofInt 1 := ⟨_, rfl⟩
                        refine lv_iinc (v := x_15) (lv' := [(5, .int x_15), (4, .int t4_c36), (0, .ref h), (1, .int v), (2, .int n), (3, .int k)]) hx hb dX8_keepsAway_122 hl (k := 0) rfl ex_15.symm (by decide) rfl (fun ls hl => ?_)
                        have ex_15 : x_15 = t5_c45 + 1 := ex_15
                        have e_15 : x_15.toInt = t5_c45.toInt + 1 := by rw [ex_15]; exact zi_add (rfl) (by decide) (by omega) (by omega)
                        clear ex_15
                        refine lv_goto (tgt := 45) hx hb dX8_keepsAway_125 (by decide) ?_
                        exact ih45 x_15 g0_c45 _ _ _ (show 0 ≤ x_15.toInt ∧ x_15.toInt ≤ 256 from by omega) ha_g0_c45 (by omega) (hP.sub [0, 1] rfl) (hD.sub [0, 1] (by decide) rfl) hS (lv_sub hl [0, 1, 2, 3, 4, 5] rfl)
                      · have f_14 : x_13.toInt = 0 := zi_eq c_14
                        refine lv_aload_n hx hb dX8_keepsAway_81 rfl (lv_at hl 2 rfl) ?_
                        refine lv_iconst (v := 0) hx hb dX8_keepsAway_82 (by decide) ?_
                        refine lv_bipush (v := 27) hx hb dX8_keepsAway_83 (by decide) ?_
                        have k_16 := (g_X8_copies l D cI cB cQ H.size h sl zs ln ir tk tb tr fz na su le fu ap pp tc nm 0 27 g0_c45 v0 ha_g0_c45 ⟨by decide, by decide⟩ ⟨by decide, by decide⟩)
                        refine wc_v (WC := [(h, .inr (7, [.ref sl, .int na, .ref zs, .ref ln, .ref ir, .ref tk, .int su, .int le, .ref tb, .int fu, .int ap, .int pp, .ref tr, .int tc, .ref fz, .int nm])), (sl, .inl (cI, 1653, .inl g0_c45))]) (WR := []) (va_runV (As := [.int 0, .int 27]) (rest := []) ⟨hx, hb, hml, hown, hts⟩ k_16 (cwV 2 hts gX8_keepsAway_X8_copies rfl rfl rfl (by decide +kernel) ⟨Nat.le_of_ble_eq_true rfl, Nat.le_of_ble_eq_true rfl⟩) (wp_V hP hK hD hN [0, 1] (by decide) rfl (ci := 7) rfl rfl) rfl rfl hl.1 rfl (lv_room (Nat.le_of_ble_eq_true rfl)) dX8_keepsAway_85 ⟨Nat.le_of_ble_eq_true rfl, Nat.le_of_ble_eq_true rfl⟩) hP hD hS hA [0, 1] [] rfl rfl (by decide) (by decide) (fun u_16 H locs hw_16 hP hD hS => ?_)
                        clear k_16
                        have hP : va_P D kl [(h, .inr (7, [.ref sl, .int na, .ref zs, .ref ln, .ref ir, .ref tk, .int su, .int le, .ref tb, .int fu, .int ap, .int pp, .ref tr, .int tc, .ref fz, .int nm])), (sl, .inl (cI, 1653, .inl u_16))] H := hP
                        have hD : va_D A [(h, .inr (7, [.ref sl, .int na, .ref zs, .ref ln, .ref ir, .ref tk, .int su, .int le, .ref tb, .int fu, .int ap, .int pp, .ref tr, .int tc, .ref fz, .int nm])), (sl, .inl (cI, 1653, .inl u_16))] := hD
                        have c16_0 := hw_16
                        have c16_0 : SI u_16 v0 := c16_0
                        refine lv_aload_n hx hb dX8_keepsAway_88 rfl (lv_at hl 2 rfl) ?_
                        refine va_get (D := D) (ci := 7) (v := .ref sl) (C := RX8) (T := TX8) (N := 16) hx hb hts (fun _ h => List.mem_cons_of_mem _ (List.mem_append_right _ h)) hown hK hP 0 rfl rfl 0 (by decide) (hts (.fieldLink RX8 7 "WinterWalkModel" "slot" "[I") (List.mem_of_getElem? (i := 3) rfl)) (fun _ h9 => h9) rfl dX8_keepsAway_89 ?_
                        refine lv_sipush (v := 1570) hx hb dX8_keepsAway_92 (by decide) ?_
                        refine lv_dup2_11 hx hb dX8_keepsAway_95 rfl rfl ?_
                        refine va_iald hx hb hK hP 1 0 rfl rfl (zi_in (by decide) (by decide)) dX8_keepsAway_96 ?_
                        refine lv_topi (fun x_17 ex_17 => ?_)
                        refine lv_iload hx hb dX8_keepsAway_97 (lv_at hl 0 rfl) ?_
                        refine lv_ior hx hb dX8_keepsAway_99 ?_
                        refine lv_topi (fun x_18 ex_18 => ?_)
                        clear ex_18
                        refine va_iast hx hb hK hP hD hS 1 0 rfl rfl (zi_in (by decide) (by decide)) dX8_keepsAway_100 (fun H locs hP hD hS => ?_)
                        have hP : va_P D kl [(h, .inr (7, [.ref sl, .int na, .ref zs, .ref ln, .ref ir, .ref tk, .int su, .int le, .ref tb, .int fu, .int ap, .int pp, .ref tr, .int tc, .ref fz, .int nm])), (sl, .inl (cI, 1653, .inl (upd u_16 (1570 : Int32).toNatClampNeg x_18)))] H := hP
                        have hD : va_D A [(h, .inr (7, [.ref sl, .int na, .ref zs, .ref ln, .ref ir, .ref tk, .int su, .int le, .ref tb, .int fu, .int ap, .int pp, .ref tr, .int tc, .ref fz, .int nm])), (sl, .inl (cI, 1653, .inl (upd u_16 (1570 : Int32).toNatClampNeg x_18)))] := hD
                        have hq_19 : (1570 : Int32).toInt = 1570 := by decide
                        have ha_19 : SI (upd u_16 (1570 : Int32).toNatClampNeg x_18) v0 := si_up c16_0 (by omega) (fun s0 a0 b0 e0 => by omega) (fun s0 a0 b0 e0 => by omega) (fun s0 k0 a0 b0 c0 d0 e0 => by omega) (by omega)
                        refine lv_aload_n hx hb dX8_keepsAway_101 rfl (lv_at hl 2 rfl) ?_
                        refine lv_iload_n hx hb dX8_keepsAway_102 rfl (lv_at hl 3 rfl) ?_
                        refine lv_iload_n hx hb dX8_keepsAway_103 rfl (lv_at hl 4 rfl) ?_
                        have k_20 := (g_X8_isSlept l D cI cB cQ H.size h sl zs ln ir tk tb tr fz na su le fu ap pp tc nm v n (upd u_16 (1570 : Int32).toNatClampNeg x_18) v0 ha_19 (by omega) (by omega))
                        refine wc_i (WC := [(h, .inr (7, [.ref sl, .int na, .ref zs, .ref ln, .ref ir, .ref tk, .int su, .int le, .ref tb, .int fu, .int ap, .int pp, .ref tr, .int tc, .ref fz, .int nm])), (sl, .inl (cI, 1653, .inl (upd u_16 (1570 : Int32).toNatClampNeg x_18)))]) (WR := []) (va_runV (As := [.int v, .int n]) (rest := []) ⟨hx, hb, hml, hown, hts⟩ k_20 (cwV 2 hts gX8_keepsAway_X8_isSlept rfl rfl rfl (by decide +kernel) ⟨Nat.le_of_ble_eq_true rfl, Nat.le_of_ble_eq_true rfl⟩) (wp_V hP hK hD hN [0, 1] (by decide) rfl (ci := 7) rfl rfl) rfl rfl hl.1 rfl (lv_room (Nat.le_of_ble_eq_true rfl)) dX8_keepsAway_104 ⟨Nat.le_of_ble_eq_true rfl, Nat.le_of_ble_eq_true rfl⟩) hP hD hS hA [0, 1] [] rfl rfl (by decide) (by decide) (fun r_20 u_20 H locs hw_20 hP hD hS => ?_)
                        clear k_20
                        have hP : va_P D kl [(h, .inr (7, [.ref sl, .int na, .ref zs, .ref ln, .ref ir, .ref tk, .int su, .int le, .ref tb, .int fu, .int ap, .int pp, .ref tr, .int tc, .ref fz, .int nm])), (sl, .inl (cI, 1653, .inl u_20))] H := hP
                        have hD : va_D A [(h, .inr (7, [.ref sl, .int na, .ref zs, .ref ln, .ref ir, .ref tk, .int su, .int le, .ref tb, .int fu, .int ap, .int pp, .ref tr, .int tc, .ref fz, .int nm])), (sl, .inl (cI, 1653, .inl u_20))] := hD
                        obtain ⟨c20_0, c20_1⟩ := hw_20
                        have c20_1 : SI u_20 v0 := c20_1
                        rcases c20_0 with e_20 | e_20
                        · subst e_20
                          refine lv_if_ne (tgt := 122) hx hb dX8_keepsAway_107 (by decide) (fun _ => ?_) (fun c9 => absurd c9 (by decide))
                          obtain ⟨x_21, ex_21⟩ : ∃ y : Int32, y = t5_c45 + Int32.ofInt 1 := ⟨_, rfl⟩
                          refine lv_iinc (v := x_21) (lv' := [(5, .int x_21), (4, .int t4_c36), (0, .ref h), (1, .int v), (2, .int n), (3, .int k)]) hx hb dX8_keepsAway_122 hl (k := 0) rfl ex_21.symm (by decide) rfl (fun ls hl => ?_)
                          have ex_21 : x_21 = t5_c45 + 1 := ex_21
                          have e_21 : x_21.toInt = t5_c45.toInt + 1 := by rw [ex_21]; exact zi_add (rfl) (by decide) (by omega) (by omega)
                          clear ex_21
                          refine lv_goto (tgt := 45) hx hb dX8_keepsAway_125 (by decide) ?_
                          exact ih45 x_21 u_20 _ _ _ (show 0 ≤ x_21.toInt ∧ x_21.toInt ≤ 256 from by omega) c20_1 (by omega) (hP.sub [0, 1] rfl) (hD.sub [0, 1] (by decide) rfl) hS (lv_sub hl [0, 1, 2, 3, 4, 5] rfl)
                        · subst e_20
                          refine lv_if_ne (tgt := 122) hx hb dX8_keepsAway_107 (by decide) (fun c9 => absurd (by decide) c9) (fun _ => ?_)
                          refine lv_iload_n hx hb dX8_keepsAway_110 rfl (lv_at hl 5 rfl) ?_
                          refine lv_if_ne (tgt := 119) hx hb dX8_keepsAway_111 (by decide) (fun c_22 => ?_) (fun c_22 => ?_)
                          · have f_22 : ¬ k.toInt = 0 := zi_ne c_22
                            refine lv_iload hx hb dX8_keepsAway_119 (lv_at hl 0 rfl) ?_
                            exact wr_i (v := t5_c45) hx hb hr hlocks hS u_20 (by exact c20_1) (hP.sub [0, 1] rfl) (hD.sub [0, 1] (by decide) rfl) dX8_keepsAway_121
                          · have f_22 : k.toInt = 0 := zi_eq c_22
                            refine lv_iload hx hb dX8_keepsAway_114 (lv_at hl 1 rfl) ?_
                            refine lv_goto (tgt := 121) hx hb dX8_keepsAway_116 (by decide) ?_
                            exact wr_i (v := t4_c36) hx hb hr hlocks hS u_20 (by exact c20_1) (hP.sub [0, 1] rfl) (hD.sub [0, 1] (by decide) rfl) dX8_keepsAway_121
              exact hL45 (((256 - (0 : Int32).toInt).toNat) + 1) 0 g0_c36 _ _ _ (show 0 ≤ 0 ∧ 0 ≤ 256 from by omega) ha_g0_c36 (Nat.lt_succ_self _) (hP.sub [0, 1] rfl) (hD.sub [0, 1] (by decide) rfl) hS (lv_sub hl [0, 1, 2, 3, 4, 5] rfl)
        exact hL36 (((4 - (0 : Int32).toInt).toNat) + 1) 0 sf _ _ _ (show 0 ≤ 0 ∧ 0 ≤ 4 from by omega) hsi (Nat.lt_succ_self _) (hP.sub [0, 1] rfl) (hD.sub [0, 1] (by decide) rfl) hS (lv_sub hl [0, 1, 2, 3, 4] rfl)
      · subst e_3
        have f_3 : ¬ ((0 : Int) ≤ k.toInt ∧ k.toInt ≤ (1 : Int)) := by
          have h8 := f_3
          try simp only [zl_of] at h8
          exact h8
        refine lv_if_ne (tgt := 33) hx hb dX8_keepsAway_27 (by decide) (fun c9 => absurd (by decide) c9) (fun _ => ?_)
        refine lv_ldc (v := (-1000001)) hx hb hown (hts (.constant RX8 48 (-1000001)) (List.mem_of_getElem? (i := 2) rfl)) dX8_keepsAway_30 ?_
        exact wr_i (v := (-1000001)) hx hb hr hlocks hS sf (by exact hsi) (hP.sub [0, 1] rfl) (hD.sub [0, 1] (by decide) rfl) dX8_keepsAway_32
    · subst e_2
      have f_2 : ¬ ((1 : Int) ≤ n.toInt ∧ n.toInt ≤ (100 : Int)) := by
        have h8 := f_2
        try simp only [zl_of] at h8
        exact h8
      refine lv_if_eq (tgt := 30) hx hb dX8_keepsAway_17 (by decide) (fun _ => ?_) (fun c9 => absurd (by decide) c9)
      refine lv_ldc (v := (-1000001)) hx hb hown (hts (.constant RX8 48 (-1000001)) (List.mem_of_getElem? (i := 2) rfl)) dX8_keepsAway_30 ?_
      exact wr_i (v := (-1000001)) hx hb hr hlocks hS sf (by exact hsi) (hP.sub [0, 1] rfl) (hD.sub [0, 1] (by decide) rfl) dX8_keepsAway_32
  · subst e_1
    refine lv_if_eq (tgt := 30) hx hb dX8_keepsAway_5 (by decide) (fun _ => ?_) (fun c9 => absurd (by decide) c9)
    refine lv_ldc (v := (-1000001)) hx hb hown (hts (.constant RX8 48 (-1000001)) (List.mem_of_getElem? (i := 2) rfl)) dX8_keepsAway_30 ?_
    exact wr_i (v := (-1000001)) hx hb hr hlocks hS sf (by exact hsi) (hP.sub [0, 1] rfl) (hD.sub [0, 1] (by decide) rfl) dX8_keepsAway_32
set_option maxHeartbeats 4000000 in
set_option maxRecDepth 100000 in
theorem g_X8_hasBy (l : Launch) (D : va_G) (cI cB cQ : ClassId) (sz : Nat) (h : Nat) (sl : Nat) (zs : Nat) (ln : Nat) (ir : Nat) (tk : Nat) (tb : Nat) (tr : Nat) (fz : Nat) (na : Int32) (su : Int32) (le : Int32) (fu : Int32) (ap : Int32) (pp : Int32) (tc : Int32) (nm : Int32) (v : Int32) (b : Int32) (n : Int32) (sf : Nat → Int32) (v0 : Int) (hsi : SI sf v0) (h_v : 0 ≤ v.toInt ∧ v.toInt ≤ 7) (h_n : 0 ≤ n.toInt ∧ n.toInt ≤ 100) : mi l yX8_hasBy wsX8_hasBy ({ frames := 5, cells := 0, slots := 0, locals := 122 }) D cI cB cQ [.ref h, .int v, .int b, .int n] sz [(h, .inr (7, [.ref sl, .int na, .ref zs, .ref ln, .ref ir, .ref tk, .int su, .int le, .ref tb, .int fu, .int ap, .int pp, .ref tr, .int tc, .ref fz, .int nm])), (sl, .inl (cI, 1653, .inl sf))] (fun (r : Int32) (u : (Nat → Int32)) => (SI u v0)) (fun u => [(h, .inr (7, [.ref sl, .int na, .ref zs, .ref ln, .ref ir, .ref tk, .int su, .int le, .ref tb, .int fu, .int ap, .int pp, .ref tr, .int tc, .ref fz, .int nm])), (sl, .inl (cI, 1653, .inl u))]) 0 0 := by
  refine wm_i (cc := cX8_hasBy) (maxL := 8) (ret := (some .int)) (by decide) rfl (Nat.le_of_ble_eq_true rfl) ?_
  intro p e s m below meth c A ls hx hb hr hml hown hts hlocks hin hP hK hD hN hA hl hS
  have hown : s.vm.findClass RX8 = some m.cls := hown
  have hl : lv_has ls 8 [(0, .ref h), (1, .int v), (2, .int b), (3, .int n)] := hl
  change W p l e ({ frames := 5, cells := 0, slots := 0, locals := 122 }) s m ([.ref h, .int v, .int b, .int n] : List Value).toArray below meth c s.heap [] 0 0 (MQ below (va_Qi (fun (r : Int32) (u : (Nat → Int32)) => (SI u v0)) (fun u t => wb D A ((fun u => [(h, .inr (7, [.ref sl, .int na, .ref zs, .ref ln, .ref ir, .ref tk, .int su, .int le, .ref tb, .int fu, .int ap, .int pp, .ref tr, .int tc, .ref fz, .int nm])), (sl, .inl (cI, 1653, .inl u))]) u) t) A) ([.ref h, .int v, .int b, .int n] : List Value).toArray s 0 0 A) (F0 m 0 ls [])
  refine lv_aload_n hx hb dX8_hasBy_0 rfl (lv_at hl 0 rfl) ?_
  refine lv_iconst (v := 0) hx hb dX8_hasBy_1 (by decide) ?_
  refine lv_bipush (v := 27) hx hb dX8_hasBy_2 (by decide) ?_
  have k_1 := (g_X8_copies l D cI cB cQ s.heap.size h sl zs ln ir tk tb tr fz na su le fu ap pp tc nm 0 27 sf v0 hsi ⟨by decide, by decide⟩ ⟨by decide, by decide⟩)
  refine wc_v (WC := [(h, .inr (7, [.ref sl, .int na, .ref zs, .ref ln, .ref ir, .ref tk, .int su, .int le, .ref tb, .int fu, .int ap, .int pp, .ref tr, .int tc, .ref fz, .int nm])), (sl, .inl (cI, 1653, .inl sf))]) (WR := []) (va_runV (As := [.int 0, .int 27]) (rest := []) ⟨hx, hb, hml, hown, hts⟩ k_1 (cwV 2 hts gX8_hasBy_X8_copies rfl rfl rfl (by decide +kernel) ⟨Nat.le_of_ble_eq_true rfl, Nat.le_of_ble_eq_true rfl⟩) (wp_V hP hK hD hN [0, 1] (by decide) rfl (ci := 7) rfl rfl) rfl rfl hl.1 rfl (lv_room (Nat.le_of_ble_eq_true rfl)) dX8_hasBy_4 ⟨Nat.le_of_ble_eq_true rfl, Nat.le_of_ble_eq_true rfl⟩) hP hD hS hA [0, 1] [] rfl rfl (by decide) (by decide) (fun u_1 H locs hw_1 hP hD hS => ?_)
  clear k_1
  have hP : va_P D kl [(h, .inr (7, [.ref sl, .int na, .ref zs, .ref ln, .ref ir, .ref tk, .int su, .int le, .ref tb, .int fu, .int ap, .int pp, .ref tr, .int tc, .ref fz, .int nm])), (sl, .inl (cI, 1653, .inl u_1))] H := hP
  have hD : va_D A [(h, .inr (7, [.ref sl, .int na, .ref zs, .ref ln, .ref ir, .ref tk, .int su, .int le, .ref tb, .int fu, .int ap, .int pp, .ref tr, .int tc, .ref fz, .int nm])), (sl, .inl (cI, 1653, .inl u_1))] := hD
  have c1_0 := hw_1
  have c1_0 : SI u_1 v0 := c1_0
  refine lv_aload_n hx hb dX8_hasBy_7 rfl (lv_at hl 0 rfl) ?_
  refine va_get (D := D) (ci := 7) (v := .ref sl) (C := RX8) (T := TX8) (N := 16) hx hb hts (fun _ h => List.mem_cons_of_mem _ (List.mem_append_right _ h)) hown hK hP 0 rfl rfl 0 (by decide) (hts (.fieldLink RX8 7 "WinterWalkModel" "slot" "[I") (List.mem_of_getElem? (i := 1) rfl)) (fun _ h9 => h9) rfl dX8_hasBy_8 ?_
  refine lv_sipush (v := 1562) hx hb dX8_hasBy_11 (by decide) ?_
  refine lv_iload_n hx hb dX8_hasBy_14 rfl (lv_at hl 1 rfl) ?_
  refine lv_iadd hx hb dX8_hasBy_15 ?_
  refine lv_topi (fun x_2 ex_2 => ?_)
  have e_2 : x_2.toInt = 1562 + v.toInt := by rw [ex_2]; exact zi_add (by decide) (rfl) (by omega) (by omega)
  clear ex_2
  refine lv_iload_n hx hb dX8_hasBy_16 rfl (lv_at hl 2 rfl) ?_
  refine va_iast hx hb hK hP hD hS 1 0 rfl rfl (zi_in (by omega) (by omega)) dX8_hasBy_17 (fun H locs hP hD hS => ?_)
  have hP : va_P D kl [(h, .inr (7, [.ref sl, .int na, .ref zs, .ref ln, .ref ir, .ref tk, .int su, .int le, .ref tb, .int fu, .int ap, .int pp, .ref tr, .int tc, .ref fz, .int nm])), (sl, .inl (cI, 1653, .inl (upd u_1 (x_2 : Int32).toNatClampNeg b)))] H := hP
  have hD : va_D A [(h, .inr (7, [.ref sl, .int na, .ref zs, .ref ln, .ref ir, .ref tk, .int su, .int le, .ref tb, .int fu, .int ap, .int pp, .ref tr, .int tc, .ref fz, .int nm])), (sl, .inl (cI, 1653, .inl (upd u_1 (x_2 : Int32).toNatClampNeg b)))] := hD
  have ha_3 : SI (upd u_1 (x_2 : Int32).toNatClampNeg b) v0 := si_up c1_0 (by omega) (fun s0 a0 b0 e0 => by omega) (fun s0 a0 b0 e0 => by omega) (fun s0 k0 a0 b0 c0 d0 e0 => by omega) (by omega)
  refine lv_iconst (v := 0) hx hb dX8_hasBy_18 (by decide) ?_
  refine lv_istore (lv' := [(4, .int 0), (0, .ref h), (1, .int v), (2, .int b), (3, .int n)]) hx hb dX8_hasBy_19 hl (by decide) rfl (fun ls hl => ?_)
  refine lv_iconst (v := 0) hx hb dX8_hasBy_21 (by decide) ?_
  refine lv_istore (lv' := [(5, .int 0), (4, .int 0), (0, .ref h), (1, .int v), (2, .int b), (3, .int n)]) hx hb dX8_hasBy_22 hl (by decide) rfl (fun ls hl => ?_)
  have hL24 : ∀ (nf : Nat) (t5_c24 : Int32) (t4_c24 : Int32) (g0_c24 : Nat → Int32) (H : Heap) (locs : List Loc) (ls : Array Slot), (0 ≤ t5_c24.toInt ∧ t5_c24.toInt ≤ 100) → (SI g0_c24 v0) → (n.toInt - t5_c24.toInt).toNat < nf → va_P D kl [(h, .inr (7, [.ref sl, .int na, .ref zs, .ref ln, .ref ir, .ref tk, .int su, .int le, .ref tb, .int fu, .int ap, .int pp, .ref tr, .int tc, .ref fz, .int nm])), (sl, .inl (cI, 1653, .inl g0_c24))] H → va_D A [(h, .inr (7, [.ref sl, .int na, .ref zs, .ref ln, .ref ir, .ref tk, .int su, .int le, .ref tb, .int fu, .int ap, .int pp, .ref tr, .int tc, .ref fz, .int nm])), (sl, .inl (cI, 1653, .inl g0_c24))] → va_S A s.heap H locs → lv_has ls 8 [(5, .int t5_c24), (4, .int t4_c24), (0, .ref h), (1, .int v), (2, .int b), (3, .int n)] → W p l e ({ frames := 5, cells := 0, slots := 0, locals := 122 }) s m ([.ref h, .int v, .int b, .int n] : List Value).toArray below meth c H locs 0 0 (MQ below (va_Qi (fun (r : Int32) (u : (Nat → Int32)) => (SI u v0)) (fun u t => wb D A ((fun u => [(h, .inr (7, [.ref sl, .int na, .ref zs, .ref ln, .ref ir, .ref tk, .int su, .int le, .ref tb, .int fu, .int ap, .int pp, .ref tr, .int tc, .ref fz, .int nm])), (sl, .inl (cI, 1653, .inl u))]) u) t) A) ([.ref h, .int v, .int b, .int n] : List Value).toArray s 0 0 A) (F0 m 24 ls []) := by
    intro nf
    induction nf with
    | zero =>
      intro t5_c24 t4_c24 g0_c24 H locs ls i_t5_c24 ha_g0_c24 hm
      exact absurd hm (Nat.not_lt_zero _)
    | succ nf ih24 =>
      intro t5_c24 t4_c24 g0_c24 H locs ls i_t5_c24 ha_g0_c24 hm24 hP hD hS hl
      refine lv_iload hx hb dX8_hasBy_24 (lv_at hl 0 rfl) ?_
      refine lv_iload_n hx hb dX8_hasBy_26 rfl (lv_at hl 5 rfl) ?_
      refine lv_icmp_ge (tgt := 127) hx hb dX8_hasBy_27 (by decide) (fun c_4 => ?_) (fun c_4 => ?_)
      · have f_4 : n.toInt ≤ t5_c24.toInt := zi_le c_4
        refine lv_iload hx hb dX8_hasBy_127 (lv_at hl 1 rfl) ?_
        exact wr_i (v := t4_c24) hx hb hr hlocks hS g0_c24 (by exact ha_g0_c24) (hP.sub [0, 1] rfl) (hD.sub [0, 1] (by decide) rfl) dX8_hasBy_129
      · have f_4 : ¬ n.toInt ≤ t5_c24.toInt := zi_nle c_4
        refine lv_aload_n hx hb dX8_hasBy_30 rfl (lv_at hl 2 rfl) ?_
        refine lv_bipush (v := 27) hx hb dX8_hasBy_31 (by decide) ?_
        refine lv_iconst (v := (-1)) hx hb dX8_hasBy_33 (by decide) ?_
        have k_5 := (g_X8_day l D cI cB cQ H.size h sl zs ln ir tk tb tr fz na su le fu ap pp tc nm 27 (-1) g0_c24 v0 ha_g0_c24 ⟨by decide, by decide⟩)
        refine wc_v (WC := [(h, .inr (7, [.ref sl, .int na, .ref zs, .ref ln, .ref ir, .ref tk, .int su, .int le, .ref tb, .int fu, .int ap, .int pp, .ref tr, .int tc, .ref fz, .int nm])), (sl, .inl (cI, 1653, .inl g0_c24))]) (WR := []) (va_runV (As := [.int 27, .int (-1)]) (rest := []) ⟨hx, hb, hml, hown, hts⟩ k_5 (cwV 2 hts gX8_hasBy_X8_day rfl rfl rfl (by decide +kernel) ⟨Nat.le_of_ble_eq_true rfl, Nat.le_of_ble_eq_true rfl⟩) (wp_V hP hK hD hN [0, 1] (by decide) rfl (ci := 7) rfl rfl) rfl rfl hl.1 rfl (lv_room (Nat.le_of_ble_eq_true rfl)) dX8_hasBy_34 ⟨Nat.le_of_ble_eq_true rfl, Nat.le_of_ble_eq_true rfl⟩) hP hD hS hA [0, 1] [] rfl rfl (by decide) (by decide) (fun u_5 H locs hw_5 hP hD hS => ?_)
        clear k_5
        have hP : va_P D kl [(h, .inr (7, [.ref sl, .int na, .ref zs, .ref ln, .ref ir, .ref tk, .int su, .int le, .ref tb, .int fu, .int ap, .int pp, .ref tr, .int tc, .ref fz, .int nm])), (sl, .inl (cI, 1653, .inl u_5))] H := hP
        have hD : va_D A [(h, .inr (7, [.ref sl, .int na, .ref zs, .ref ln, .ref ir, .ref tk, .int su, .int le, .ref tb, .int fu, .int ap, .int pp, .ref tr, .int tc, .ref fz, .int nm])), (sl, .inl (cI, 1653, .inl u_5))] := hD
        have c5_0 := hw_5
        have c5_0 : SI u_5 v0 := c5_0
        refine lv_iconst (v := 0) hx hb dX8_hasBy_37 (by decide) ?_
        refine lv_istore (lv' := [(6, .int 0), (5, .int t5_c24), (4, .int t4_c24), (0, .ref h), (1, .int v), (2, .int b), (3, .int n)]) hx hb dX8_hasBy_38 hl (by decide) rfl (fun ls hl => ?_)
        have hL40 : ∀ (nf : Nat) (t6_c40 : Int32) (t4_c40 : Int32) (H : Heap) (locs : List Loc) (ls : Array Slot), (0 ≤ t6_c40.toInt ∧ t6_c40.toInt ≤ 3) → (3 - t6_c40.toInt).toNat < nf → va_P D kl [(h, .inr (7, [.ref sl, .int na, .ref zs, .ref ln, .ref ir, .ref tk, .int su, .int le, .ref tb, .int fu, .int ap, .int pp, .ref tr, .int tc, .ref fz, .int nm])), (sl, .inl (cI, 1653, .inl u_5))] H → va_D A [(h, .inr (7, [.ref sl, .int na, .ref zs, .ref ln, .ref ir, .ref tk, .int su, .int le, .ref tb, .int fu, .int ap, .int pp, .ref tr, .int tc, .ref fz, .int nm])), (sl, .inl (cI, 1653, .inl u_5))] → va_S A s.heap H locs → lv_has ls 8 [(6, .int t6_c40), (5, .int t5_c24), (4, .int t4_c40), (0, .ref h), (1, .int v), (2, .int b), (3, .int n)] → W p l e ({ frames := 5, cells := 0, slots := 0, locals := 122 }) s m ([.ref h, .int v, .int b, .int n] : List Value).toArray below meth c H locs 0 0 (MQ below (va_Qi (fun (r : Int32) (u : (Nat → Int32)) => (SI u v0)) (fun u t => wb D A ((fun u => [(h, .inr (7, [.ref sl, .int na, .ref zs, .ref ln, .ref ir, .ref tk, .int su, .int le, .ref tb, .int fu, .int ap, .int pp, .ref tr, .int tc, .ref fz, .int nm])), (sl, .inl (cI, 1653, .inl u))]) u) t) A) ([.ref h, .int v, .int b, .int n] : List Value).toArray s 0 0 A) (F0 m 40 ls []) := by
          intro nf
          induction nf with
          | zero =>
            intro t6_c40 t4_c40 H locs ls i_t6_c40 hm
            exact absurd hm (Nat.not_lt_zero _)
          | succ nf ih40 =>
            intro t6_c40 t4_c40 H locs ls i_t6_c40 hm40 hP hD hS hl
            refine lv_iload hx hb dX8_hasBy_40 (lv_at hl 0 rfl) ?_
            refine lv_aload_n hx hb dX8_hasBy_42 rfl (lv_at hl 3 rfl) ?_
            refine va_get (D := D) (ci := 7) (v := .ref sl) (C := RX8) (T := TX8) (N := 16) hx hb hts (fun _ h => List.mem_cons_of_mem _ (List.mem_append_right _ h)) hown hK hP 0 rfl rfl 0 (by decide) (hts (.fieldLink RX8 7 "WinterWalkModel" "slot" "[I") (List.mem_of_getElem? (i := 1) rfl)) (fun _ h9 => h9) rfl dX8_hasBy_43 ?_
            refine lv_iconst (v := 2) hx hb dX8_hasBy_46 (by decide) ?_
            refine va_iald hx hb hK hP 1 0 rfl rfl (zi_in (by decide) (by decide)) dX8_hasBy_47 ?_
            refine lv_topi (fun x_6 ex_6 => ?_)
            have f_6 : 0 ≤ x_6.toInt ∧ x_6.toInt ≤ 3 := by rw [ex_6]; exact si_w c5_0 (s := 0) (by decide) (by omega)
            refine lv_icmp_ge (tgt := 121) hx hb dX8_hasBy_48 (by decide) (fun c_7 => ?_) (fun c_7 => ?_)
            · have f_7 : x_6.toInt ≤ t6_c40.toInt := zi_le c_7
              obtain ⟨x_8, ex_8⟩ : ∃ y : Int32, y = t5_c24 + Int32.ofInt 1 := ⟨_, rfl⟩
              refine lv_iinc (v := x_8) (lv' := [(5, .int x_8), (6, .int t6_c40), (4, .int t4_c40), (0, .ref h), (1, .int v), (2, .int b), (3, .int n)]) hx hb dX8_hasBy_121 hl (k := 1) rfl ex_8.symm (by decide) rfl (fun ls hl => ?_)
              have ex_8 : x_8 = t5_c24 + 1 := ex_8
              have e_8 : x_8.toInt = t5_c24.toInt + 1 := by rw [ex_8]; exact zi_add (rfl) (by decide) (by omega) (by omega)
              clear ex_8
              refine lv_goto (tgt := 24) hx hb dX8_hasBy_124 (by decide) ?_
              exact ih24 x_8 t4_c40 u_5 _ _ _ (show 0 ≤ x_8.toInt ∧ x_8.toInt ≤ 100 from by omega) c5_0 (by omega) (hP.sub [0, 1] rfl) (hD.sub [0, 1] (by decide) rfl) hS (lv_sub hl [0, 2, 3, 4, 5, 6] rfl)
            · have f_7 : ¬ x_6.toInt ≤ t6_c40.toInt := zi_nle c_7
              refine lv_aload_n hx hb dX8_hasBy_51 rfl (lv_at hl 3 rfl) ?_
              refine va_get (D := D) (ci := 7) (v := .ref sl) (C := RX8) (T := TX8) (N := 16) hx hb hts (fun _ h => List.mem_cons_of_mem _ (List.mem_append_right _ h)) hown hK hP 0 rfl rfl 0 (by decide) (hts (.fieldLink RX8 7 "WinterWalkModel" "slot" "[I") (List.mem_of_getElem? (i := 1) rfl)) (fun _ h9 => h9) rfl dX8_hasBy_52 ?_
              refine lv_sipush (v := 1587) hx hb dX8_hasBy_55 (by decide) ?_
              refine lv_iload hx hb dX8_hasBy_58 (lv_at hl 0 rfl) ?_
              refine lv_iadd hx hb dX8_hasBy_60 ?_
              refine lv_topi (fun x_9 ex_9 => ?_)
              have e_9 : x_9.toInt = 1587 + t6_c40.toInt := by rw [ex_9]; exact zi_add (by decide) (rfl) (by omega) (by omega)
              clear ex_9
              refine va_iald hx hb hK hP 1 0 rfl rfl (zi_in (by omega) (by omega)) dX8_hasBy_61 ?_
              refine lv_topi (fun x_10 ex_10 => ?_)
              have f_10 : 0 ≤ x_10.toInt ∧ x_10.toInt ≤ 7 := by rw [ex_10]; exact si_a c5_0 (s := 27) (k := t6_c40.toInt) (by omega) (by omega) (by omega)
              clear ex_10
              refine lv_iload_n hx hb dX8_hasBy_62 rfl (lv_at hl 4 rfl) ?_
              refine lv_icmp_ne (tgt := 70) hx hb dX8_hasBy_63 (by decide) (fun c_11 => ?_) (fun c_11 => ?_)
              · have f_11 : ¬ x_10.toInt = v.toInt := zi_ne c_11
                refine lv_iconst (v := 0) hx hb dX8_hasBy_70 (by decide) ?_
                refine lv_istore (lv' := [(7, .int 0), (6, .int t6_c40), (5, .int t5_c24), (4, .int t4_c40), (0, .ref h), (1, .int v), (2, .int b), (3, .int n)]) hx hb dX8_hasBy_71 hl (by decide) rfl (fun ls hl => ?_)
                refine lv_iload hx hb dX8_hasBy_73 (lv_at hl 3 rfl) ?_
                refine lv_iload hx hb dX8_hasBy_75 (lv_at hl 0 rfl) ?_
                refine lv_if_eq (tgt := 111) hx hb dX8_hasBy_77 (by decide) (fun _ => ?_) (fun c9 => absurd (by decide) c9)
                refine lv_iconst (v := 0) hx hb dX8_hasBy_111 (by decide) ?_
                refine lv_iadd hx hb dX8_hasBy_112 ?_
                refine lv_topi (fun x_12 ex_12 => ?_)
                clear ex_12
                refine lv_istore (lv' := [(4, .int x_12), (7, .int 0), (6, .int t6_c40), (5, .int t5_c24), (0, .ref h), (1, .int v), (2, .int b), (3, .int n)]) hx hb dX8_hasBy_113 hl (by decide) rfl (fun ls hl => ?_)
                obtain ⟨x_13, ex_13⟩ : ∃ y : Int32, y = t6_c40 + Int32.ofInt 1 := ⟨_, rfl⟩
                refine lv_iinc (v := x_13) (lv' := [(6, .int x_13), (4, .int x_12), (7, .int 0), (5, .int t5_c24), (0, .ref h), (1, .int v), (2, .int b), (3, .int n)]) hx hb dX8_hasBy_115 hl (k := 2) rfl ex_13.symm (by decide) rfl (fun ls hl => ?_)
                have ex_13 : x_13 = t6_c40 + 1 := ex_13
                have e_13 : x_13.toInt = t6_c40.toInt + 1 := by rw [ex_13]; exact zi_add (rfl) (by decide) (by omega) (by omega)
                clear ex_13
                refine lv_goto (tgt := 40) hx hb dX8_hasBy_118 (by decide) ?_
                exact ih40 x_13 x_12 _ _ _ (show 0 ≤ x_13.toInt ∧ x_13.toInt ≤ 3 from by omega) (by omega) (hP.sub [0, 1] rfl) (hD.sub [0, 1] (by decide) rfl) hS (lv_sub hl [0, 3, 1, 4, 5, 6, 7] rfl)
              · have f_11 : x_10.toInt = v.toInt := zi_eq c_11
                refine lv_iconst (v := 1) hx hb dX8_hasBy_66 (by decide) ?_
                refine lv_goto (tgt := 71) hx hb dX8_hasBy_67 (by decide) ?_
                refine lv_istore (lv' := [(7, .int 1), (6, .int t6_c40), (5, .int t5_c24), (4, .int t4_c40), (0, .ref h), (1, .int v), (2, .int b), (3, .int n)]) hx hb dX8_hasBy_71 hl (by decide) rfl (fun ls hl => ?_)
                refine lv_iload hx hb dX8_hasBy_73 (lv_at hl 3 rfl) ?_
                refine lv_iload hx hb dX8_hasBy_75 (lv_at hl 0 rfl) ?_
                refine lv_if_eq (tgt := 111) hx hb dX8_hasBy_77 (by decide) (fun c9 => absurd c9 (by decide)) (fun _ => ?_)
                refine lv_aload_n hx hb dX8_hasBy_80 rfl (lv_at hl 4 rfl) ?_
                refine va_get (D := D) (ci := 7) (v := .ref sl) (C := RX8) (T := TX8) (N := 16) hx hb hts (fun _ h => List.mem_cons_of_mem _ (List.mem_append_right _ h)) hown hK hP 0 rfl rfl 0 (by decide) (hts (.fieldLink RX8 7 "WinterWalkModel" "slot" "[I") (List.mem_of_getElem? (i := 1) rfl)) (fun _ h9 => h9) rfl dX8_hasBy_81 ?_
                refine lv_iconst (v := 4) hx hb dX8_hasBy_84 (by decide) ?_
                refine lv_iload_n hx hb dX8_hasBy_85 rfl (lv_at hl 5 rfl) ?_
                refine lv_iadd hx hb dX8_hasBy_86 ?_
                refine lv_topi (fun x_14 ex_14 => ?_)
                have e_14 : x_14.toInt = 4 + v.toInt := by rw [ex_14]; exact zi_add (by decide) (rfl) (by omega) (by omega)
                clear ex_14
                refine va_iald hx hb hK hP 1 0 rfl rfl (zi_in (by omega) (by omega)) dX8_hasBy_87 ?_
                refine lv_topi (fun x_15 ex_15 => ?_)
                clear ex_15
                refine lv_aload_n hx hb dX8_hasBy_88 rfl (lv_at hl 4 rfl) ?_
                refine va_get (D := D) (ci := 7) (v := .ref sl) (C := RX8) (T := TX8) (N := 16) hx hb hts (fun _ h => List.mem_cons_of_mem _ (List.mem_append_right _ h)) hown hK hP 0 rfl rfl 0 (by decide) (hts (.fieldLink RX8 7 "WinterWalkModel" "slot" "[I") (List.mem_of_getElem? (i := 1) rfl)) (fun _ h9 => h9) rfl dX8_hasBy_89 ?_
                refine lv_bipush (v := 20) hx hb dX8_hasBy_92 (by decide) ?_
                refine lv_iload hx hb dX8_hasBy_94 (lv_at hl 1 rfl) ?_
                refine lv_iadd hx hb dX8_hasBy_96 ?_
                refine lv_topi (fun x_16 ex_16 => ?_)
                have e_16 : x_16.toInt = 20 + t6_c40.toInt := by rw [ex_16]; exact zi_add (by decide) (rfl) (by omega) (by omega)
                clear ex_16
                refine va_iald hx hb hK hP 1 0 rfl rfl (zi_in (by omega) (by omega)) dX8_hasBy_97 ?_
                refine lv_topi (fun x_17 ex_17 => ?_)
                clear ex_17
                refine lv_iconst (v := 4) hx hb dX8_hasBy_98 (by decide) ?_
                refine lv_icmp_ge (tgt := 106) hx hb dX8_hasBy_99 (by decide) (fun c_18 => ?_) (fun c_18 => ?_)
                · have f_18 : 4 ≤ x_17.toInt := zi_le c_18
                  refine lv_iconst (v := 0) hx hb dX8_hasBy_106 (by decide) ?_
                  refine lv_isub hx hb dX8_hasBy_107 ?_
                  refine lv_topi (fun x_19 ex_19 => ?_)
                  clear ex_19
                  refine lv_goto (tgt := 112) hx hb dX8_hasBy_108 (by decide) ?_
                  refine lv_iadd hx hb dX8_hasBy_112 ?_
                  refine lv_topi (fun x_20 ex_20 => ?_)
                  clear ex_20
                  refine lv_istore (lv' := [(4, .int x_20), (7, .int 1), (6, .int t6_c40), (5, .int t5_c24), (0, .ref h), (1, .int v), (2, .int b), (3, .int n)]) hx hb dX8_hasBy_113 hl (by decide) rfl (fun ls hl => ?_)
                  obtain ⟨x_21, ex_21⟩ : ∃ y : Int32, y = t6_c40 + Int32.ofInt 1 := ⟨_, rfl⟩
                  refine lv_iinc (v := x_21) (lv' := [(6, .int x_21), (4, .int x_20), (7, .int 1), (5, .int t5_c24), (0, .ref h), (1, .int v), (2, .int b), (3, .int n)]) hx hb dX8_hasBy_115 hl (k := 2) rfl ex_21.symm (by decide) rfl (fun ls hl => ?_)
                  have ex_21 : x_21 = t6_c40 + 1 := ex_21
                  have e_21 : x_21.toInt = t6_c40.toInt + 1 := by rw [ex_21]; exact zi_add (rfl) (by decide) (by omega) (by omega)
                  clear ex_21
                  refine lv_goto (tgt := 40) hx hb dX8_hasBy_118 (by decide) ?_
                  exact ih40 x_21 x_20 _ _ _ (show 0 ≤ x_21.toInt ∧ x_21.toInt ≤ 3 from by omega) (by omega) (hP.sub [0, 1] rfl) (hD.sub [0, 1] (by decide) rfl) hS (lv_sub hl [0, 3, 1, 4, 5, 6, 7] rfl)
                · have f_18 : ¬ 4 ≤ x_17.toInt := zi_nle c_18
                  refine lv_iload_n hx hb dX8_hasBy_102 rfl (lv_at hl 6 rfl) ?_
                  refine lv_goto (tgt := 107) hx hb dX8_hasBy_103 (by decide) ?_
                  refine lv_isub hx hb dX8_hasBy_107 ?_
                  refine lv_topi (fun x_22 ex_22 => ?_)
                  clear ex_22
                  refine lv_goto (tgt := 112) hx hb dX8_hasBy_108 (by decide) ?_
                  refine lv_iadd hx hb dX8_hasBy_112 ?_
                  refine lv_topi (fun x_23 ex_23 => ?_)
                  clear ex_23
                  refine lv_istore (lv' := [(4, .int x_23), (7, .int 1), (6, .int t6_c40), (5, .int t5_c24), (0, .ref h), (1, .int v), (2, .int b), (3, .int n)]) hx hb dX8_hasBy_113 hl (by decide) rfl (fun ls hl => ?_)
                  obtain ⟨x_24, ex_24⟩ : ∃ y : Int32, y = t6_c40 + Int32.ofInt 1 := ⟨_, rfl⟩
                  refine lv_iinc (v := x_24) (lv' := [(6, .int x_24), (4, .int x_23), (7, .int 1), (5, .int t5_c24), (0, .ref h), (1, .int v), (2, .int b), (3, .int n)]) hx hb dX8_hasBy_115 hl (k := 2) rfl ex_24.symm (by decide) rfl (fun ls hl => ?_)
                  have ex_24 : x_24 = t6_c40 + 1 := ex_24
                  have e_24 : x_24.toInt = t6_c40.toInt + 1 := by rw [ex_24]; exact zi_add (rfl) (by decide) (by omega) (by omega)
                  clear ex_24
                  refine lv_goto (tgt := 40) hx hb dX8_hasBy_118 (by decide) ?_
                  exact ih40 x_24 x_23 _ _ _ (show 0 ≤ x_24.toInt ∧ x_24.toInt ≤ 3 from by omega) (by omega) (hP.sub [0, 1] rfl) (hD.sub [0, 1] (by decide) rfl) hS (lv_sub hl [0, 3, 1, 4, 5, 6, 7] rfl)
        exact hL40 (((3 - (0 : Int32).toInt).toNat) + 1) 0 t4_c24 _ _ _ (show 0 ≤ 0 ∧ 0 ≤ 3 from by omega) (Nat.lt_succ_self _) (hP.sub [0, 1] rfl) (hD.sub [0, 1] (by decide) rfl) hS (lv_sub hl [0, 1, 2, 3, 4, 5, 6] rfl)
  exact hL24 (((n.toInt - (0 : Int32).toInt).toNat) + 1) 0 0 (upd u_1 (x_2 : Int32).toNatClampNeg b) _ _ _ (show 0 ≤ 0 ∧ 0 ≤ 100 from by omega) ha_3 (Nat.lt_succ_self _) (hP.sub [0, 1] rfl) (hD.sub [0, 1] (by decide) rfl) hS (lv_sub hl [0, 1, 2, 3, 4, 5] rfl)
set_option maxHeartbeats 4000000 in
set_option maxRecDepth 100000 in
theorem g_X8_bid (l : Launch) (D : va_G) (cI cB cQ : ClassId) (sz : Nat) (h : Nat) (sl : Nat) (zs : Nat) (ln : Nat) (ir : Nat) (tk : Nat) (tb : Nat) (tr : Nat) (fz : Nat) (na : Int32) (su : Int32) (le : Int32) (fu : Int32) (ap : Int32) (pp : Int32) (tc : Int32) (nm : Int32) (v : Int32) (n : Int32) (k : Int32) (sf : Nat → Int32) (v0 : Int) (hsi : SI sf v0) : mi l yX8_bid wsX8_bid ({ frames := 6, cells := 0, slots := 0, locals := 149 }) D cI cB cQ [.ref h, .int v, .int n, .int k] sz [(h, .inr (7, [.ref sl, .int na, .ref zs, .ref ln, .ref ir, .ref tk, .int su, .int le, .ref tb, .int fu, .int ap, .int pp, .ref tr, .int tc, .ref fz, .int nm])), (sl, .inl (cI, 1653, .inl sf))] (fun (r : Int32) (u : (Nat → Int32)) => (SI u v0)) (fun u => [(h, .inr (7, [.ref sl, .int na, .ref zs, .ref ln, .ref ir, .ref tk, .int su, .int le, .ref tb, .int fu, .int ap, .int pp, .ref tr, .int tc, .ref fz, .int nm])), (sl, .inl (cI, 1653, .inl u))]) 0 0 := by
  refine wm_i (cc := cX8_bid) (maxL := 8) (ret := (some .int)) (by decide) rfl (Nat.le_of_ble_eq_true rfl) ?_
  intro p e s m below meth c A ls hx hb hr hml hown hts hlocks hin hP hK hD hN hA hl hS
  have hown : s.vm.findClass RX8 = some m.cls := hown
  have hl : lv_has ls 8 [(0, .ref h), (1, .int v), (2, .int n), (3, .int k)] := hl
  change W p l e ({ frames := 6, cells := 0, slots := 0, locals := 149 }) s m ([.ref h, .int v, .int n, .int k] : List Value).toArray below meth c s.heap [] 0 0 (MQ below (va_Qi (fun (r : Int32) (u : (Nat → Int32)) => (SI u v0)) (fun u t => wb D A ((fun u => [(h, .inr (7, [.ref sl, .int na, .ref zs, .ref ln, .ref ir, .ref tk, .int su, .int le, .ref tb, .int fu, .int ap, .int pp, .ref tr, .int tc, .ref fz, .int nm])), (sl, .inl (cI, 1653, .inl u))]) u) t) A) ([.ref h, .int v, .int n, .int k] : List Value).toArray s 0 0 A) (F0 m 0 ls [])
  refine lv_aload_n hx hb dX8_bid_0 rfl (lv_at hl 0 rfl) ?_
  refine lv_iload_n hx hb dX8_bid_1 rfl (lv_at hl 1 rfl) ?_
  have k_1 := (g_X8_isVillageThere l D cI cB cQ s.heap.size h sl zs ln ir tk tb tr fz na su le fu ap pp tc nm v sf v0 hsi)
  refine wc_i (WC := [(h, .inr (7, [.ref sl, .int na, .ref zs, .ref ln, .ref ir, .ref tk, .int su, .int le, .ref tb, .int fu, .int ap, .int pp, .ref tr, .int tc, .ref fz, .int nm])), (sl, .inl (cI, 1653, .inl sf))]) (WR := []) (va_runV (As := [.int v]) (rest := []) ⟨hx, hb, hml, hown, hts⟩ k_1 (cwV 1 hts gX8_bid_X8_isVillageThere rfl rfl rfl (by decide +kernel) ⟨Nat.le_of_ble_eq_true rfl, Nat.le_of_ble_eq_true rfl⟩) (wp_V hP hK hD hN [0, 1] (by decide) rfl (ci := 7) rfl rfl) rfl rfl hl.1 rfl (lv_room (Nat.le_of_ble_eq_true rfl)) dX8_bid_2 ⟨Nat.le_of_ble_eq_true rfl, Nat.le_of_ble_eq_true rfl⟩) hP hD hS hA [0, 1] [] rfl rfl (by decide) (by decide) (fun r_1 u_1 H locs hw_1 hP hD hS => ?_)
  clear k_1
  have hP : va_P D kl [(h, .inr (7, [.ref sl, .int na, .ref zs, .ref ln, .ref ir, .ref tk, .int su, .int le, .ref tb, .int fu, .int ap, .int pp, .ref tr, .int tc, .ref fz, .int nm])), (sl, .inl (cI, 1653, .inl sf))] H := hP
  have hD : va_D A [(h, .inr (7, [.ref sl, .int na, .ref zs, .ref ln, .ref ir, .ref tk, .int su, .int le, .ref tb, .int fu, .int ap, .int pp, .ref tr, .int tc, .ref fz, .int nm])), (sl, .inl (cI, 1653, .inl sf))] := hD
  have c1_0 := hw_1
  rcases c1_0 with ⟨e_1, f_1⟩ | e_1
  · subst e_1
    have f_1 : 0 ≤ v.toInt ∧ v.toInt ≤ 7 ∧ v.toInt < v0 := f_1
    refine lv_if_eq (tgt := 30) hx hb dX8_bid_5 (by decide) (fun c9 => absurd c9 (by decide)) (fun _ => ?_)
    refine lv_iload_n hx hb dX8_bid_8 rfl (lv_at hl 2 rfl) ?_
    refine lv_i2l (v := (n.toInt64)) hx hb dX8_bid_9 rfl ?_
    refine lv_lconst (v := 1) hx hb dX8_bid_10 (by decide) ?_
    refine lv_ldc2 (v := 50) hx hb hown (hts (.constantLong RX8 177 (50)) (List.mem_of_getElem? (i := 1) rfl)) dX8_bid_11 ?_
    have k_2 := (g_X8_in l D cI cB cQ H.size (n.toInt64) 1 50)
    refine wc_i (WC := []) (WR := [(h, .inr (7, [.ref sl, .int na, .ref zs, .ref ln, .ref ir, .ref tk, .int su, .int le, .ref tb, .int fu, .int ap, .int pp, .ref tr, .int tc, .ref fz, .int nm])), (sl, .inl (cI, 1653, .inl sf))]) (va_runS (As := [.long (n.toInt64), .long 1, .long 50]) (rest := []) ⟨hx, hb, hml, hown, hts⟩ k_2 (va_cwS 3 hts gX8_bid_X8_in rfl rfl rfl (by decide +kernel) ⟨Nat.le_of_ble_eq_true rfl, Nat.le_of_ble_eq_true rfl⟩) (wp_S hP hK hD hN [] (by decide) rfl) rfl rfl hl.1 rfl (lv_room (Nat.le_of_ble_eq_true rfl)) dX8_bid_14 ⟨Nat.le_of_ble_eq_true rfl, Nat.le_of_ble_eq_true rfl⟩) hP hD hS hA [] [0, 1] rfl rfl (by decide) (by decide) (fun r_2 u_2 H locs hw_2 hP hD hS => ?_)
    clear k_2
    have hP : va_P D kl [(h, .inr (7, [.ref sl, .int na, .ref zs, .ref ln, .ref ir, .ref tk, .int su, .int le, .ref tb, .int fu, .int ap, .int pp, .ref tr, .int tc, .ref fz, .int nm])), (sl, .inl (cI, 1653, .inl sf))] H := hP
    have hD : va_D A [(h, .inr (7, [.ref sl, .int na, .ref zs, .ref ln, .ref ir, .ref tk, .int su, .int le, .ref tb, .int fu, .int ap, .int pp, .ref tr, .int tc, .ref fz, .int nm])), (sl, .inl (cI, 1653, .inl sf))] := hD
    have c2_0 := hw_2
    rcases c2_0 with ⟨e_2, f_2⟩ | ⟨e_2, f_2⟩
    · subst e_2
      have f_2 : (1 : Int) ≤ n.toInt ∧ n.toInt ≤ (50 : Int) := by
        have h8 := f_2
        try simp only [zl_of] at h8
        exact h8
      refine lv_if_eq (tgt := 30) hx hb dX8_bid_17 (by decide) (fun c9 => absurd c9 (by decide)) (fun _ => ?_)
      refine lv_iload_n hx hb dX8_bid_20 rfl (lv_at hl 3 rfl) ?_
      refine lv_i2l (v := (k.toInt64)) hx hb dX8_bid_21 rfl ?_
      refine lv_lconst (v := 0) hx hb dX8_bid_22 (by decide) ?_
      refine lv_lconst (v := 1) hx hb dX8_bid_23 (by decide) ?_
      have k_3 := (g_X8_in l D cI cB cQ H.size (k.toInt64) 0 1)
      refine wc_i (WC := []) (WR := [(h, .inr (7, [.ref sl, .int na, .ref zs, .ref ln, .ref ir, .ref tk, .int su, .int le, .ref tb, .int fu, .int ap, .int pp, .ref tr, .int tc, .ref fz, .int nm])), (sl, .inl (cI, 1653, .inl sf))]) (va_runS (As := [.long (k.toInt64), .long 0, .long 1]) (rest := []) ⟨hx, hb, hml, hown, hts⟩ k_3 (va_cwS 3 hts gX8_bid_X8_in rfl rfl rfl (by decide +kernel) ⟨Nat.le_of_ble_eq_true rfl, Nat.le_of_ble_eq_true rfl⟩) (wp_S hP hK hD hN [] (by decide) rfl) rfl rfl hl.1 rfl (lv_room (Nat.le_of_ble_eq_true rfl)) dX8_bid_24 ⟨Nat.le_of_ble_eq_true rfl, Nat.le_of_ble_eq_true rfl⟩) hP hD hS hA [] [0, 1] rfl rfl (by decide) (by decide) (fun r_3 u_3 H locs hw_3 hP hD hS => ?_)
      clear k_3
      have hP : va_P D kl [(h, .inr (7, [.ref sl, .int na, .ref zs, .ref ln, .ref ir, .ref tk, .int su, .int le, .ref tb, .int fu, .int ap, .int pp, .ref tr, .int tc, .ref fz, .int nm])), (sl, .inl (cI, 1653, .inl sf))] H := hP
      have hD : va_D A [(h, .inr (7, [.ref sl, .int na, .ref zs, .ref ln, .ref ir, .ref tk, .int su, .int le, .ref tb, .int fu, .int ap, .int pp, .ref tr, .int tc, .ref fz, .int nm])), (sl, .inl (cI, 1653, .inl sf))] := hD
      have c3_0 := hw_3
      rcases c3_0 with ⟨e_3, f_3⟩ | ⟨e_3, f_3⟩
      · subst e_3
        have f_3 : (0 : Int) ≤ k.toInt ∧ k.toInt ≤ (1 : Int) := by
          have h8 := f_3
          try simp only [zl_of] at h8
          exact h8
        refine lv_if_ne (tgt := 33) hx hb dX8_bid_27 (by decide) (fun _ => ?_) (fun c9 => absurd c9 (by decide))
        refine lv_iconst (v := (-1)) hx hb dX8_bid_33 (by decide) ?_
        refine lv_istore (lv' := [(4, .int (-1)), (0, .ref h), (1, .int v), (2, .int n), (3, .int k)]) hx hb dX8_bid_34 hl (by decide) rfl (fun ls hl => ?_)
        refine lv_iconst (v := 0) hx hb dX8_bid_36 (by decide) ?_
        refine lv_istore (lv' := [(5, .int 0), (4, .int (-1)), (0, .ref h), (1, .int v), (2, .int n), (3, .int k)]) hx hb dX8_bid_37 hl (by decide) rfl (fun ls hl => ?_)
        refine lv_iconst (v := 0) hx hb dX8_bid_39 (by decide) ?_
        refine lv_istore (lv' := [(6, .int 0), (5, .int 0), (4, .int (-1)), (0, .ref h), (1, .int v), (2, .int n), (3, .int k)]) hx hb dX8_bid_40 hl (by decide) rfl (fun ls hl => ?_)
        have hL42 : ∀ (nf : Nat) (t6_c42 : Int32) (t5_c42 : Int32) (t4_c42 : Int32) (g0_c42 : Nat → Int32) (H : Heap) (locs : List Loc) (ls : Array Slot), (0 ≤ t6_c42.toInt ∧ t6_c42.toInt ≤ 21) → (SI g0_c42 v0) → (21 - t6_c42.toInt).toNat < nf → va_P D kl [(h, .inr (7, [.ref sl, .int na, .ref zs, .ref ln, .ref ir, .ref tk, .int su, .int le, .ref tb, .int fu, .int ap, .int pp, .ref tr, .int tc, .ref fz, .int nm])), (sl, .inl (cI, 1653, .inl g0_c42))] H → va_D A [(h, .inr (7, [.ref sl, .int na, .ref zs, .ref ln, .ref ir, .ref tk, .int su, .int le, .ref tb, .int fu, .int ap, .int pp, .ref tr, .int tc, .ref fz, .int nm])), (sl, .inl (cI, 1653, .inl g0_c42))] → va_S A s.heap H locs → lv_has ls 8 [(6, .int t6_c42), (5, .int t5_c42), (4, .int t4_c42), (0, .ref h), (1, .int v), (2, .int n), (3, .int k)] → W p l e ({ frames := 6, cells := 0, slots := 0, locals := 149 }) s m ([.ref h, .int v, .int n, .int k] : List Value).toArray below meth c H locs 0 0 (MQ below (va_Qi (fun (r : Int32) (u : (Nat → Int32)) => (SI u v0)) (fun u t => wb D A ((fun u => [(h, .inr (7, [.ref sl, .int na, .ref zs, .ref ln, .ref ir, .ref tk, .int su, .int le, .ref tb, .int fu, .int ap, .int pp, .ref tr, .int tc, .ref fz, .int nm])), (sl, .inl (cI, 1653, .inl u))]) u) t) A) ([.ref h, .int v, .int n, .int k] : List Value).toArray s 0 0 A) (F0 m 42 ls []) := by
          intro nf
          induction nf with
          | zero =>
            intro t6_c42 t5_c42 t4_c42 g0_c42 H locs ls i_t6_c42 ha_g0_c42 hm
            exact absurd hm (Nat.not_lt_zero _)
          | succ nf ih42 =>
            intro t6_c42 t5_c42 t4_c42 g0_c42 H locs ls i_t6_c42 ha_g0_c42 hm42 hP hD hS hl
            refine lv_iload hx hb dX8_bid_42 (lv_at hl 0 rfl) ?_
            refine lv_bipush (v := 21) hx hb dX8_bid_44 (by decide) ?_
            refine lv_icmp_ge (tgt := 85) hx hb dX8_bid_46 (by decide) (fun c_4 => ?_) (fun c_4 => ?_)
            · have f_4 : 21 ≤ t6_c42.toInt := zi_le c_4
              refine lv_iload_n hx hb dX8_bid_85 rfl (lv_at hl 6 rfl) ?_
              refine lv_if_ne (tgt := 94) hx hb dX8_bid_86 (by decide) (fun c_5 => ?_) (fun c_5 => ?_)
              · have f_5 : ¬ k.toInt = 0 := zi_ne c_5
                refine lv_iload hx hb dX8_bid_94 (lv_at hl 1 rfl) ?_
                exact wr_i (v := t5_c42) hx hb hr hlocks hS g0_c42 (by exact ha_g0_c42) (hP.sub [0, 1] rfl) (hD.sub [0, 1] (by decide) rfl) dX8_bid_96
              · have f_5 : k.toInt = 0 := zi_eq c_5
                refine lv_iload hx hb dX8_bid_89 (lv_at hl 2 rfl) ?_
                refine lv_goto (tgt := 96) hx hb dX8_bid_91 (by decide) ?_
                exact wr_i (v := t4_c42) hx hb hr hlocks hS g0_c42 (by exact ha_g0_c42) (hP.sub [0, 1] rfl) (hD.sub [0, 1] (by decide) rfl) dX8_bid_96
            · have f_4 : ¬ 21 ≤ t6_c42.toInt := zi_nle c_4
              refine lv_aload_n hx hb dX8_bid_49 rfl (lv_at hl 3 rfl) ?_
              refine lv_iload_n hx hb dX8_bid_50 rfl (lv_at hl 4 rfl) ?_
              refine lv_iload hx hb dX8_bid_51 (lv_at hl 0 rfl) ?_
              refine lv_iload_n hx hb dX8_bid_53 rfl (lv_at hl 5 rfl) ?_
              have k_6 := (g_X8_hasBy l D cI cB cQ H.size h sl zs ln ir tk tb tr fz na su le fu ap pp tc nm v t6_c42 n g0_c42 v0 ha_g0_c42 (by omega) (by omega))
              refine wc_i (WC := [(h, .inr (7, [.ref sl, .int na, .ref zs, .ref ln, .ref ir, .ref tk, .int su, .int le, .ref tb, .int fu, .int ap, .int pp, .ref tr, .int tc, .ref fz, .int nm])), (sl, .inl (cI, 1653, .inl g0_c42))]) (WR := []) (va_runV (As := [.int v, .int t6_c42, .int n]) (rest := []) ⟨hx, hb, hml, hown, hts⟩ k_6 (cwV 3 hts gX8_bid_X8_hasBy rfl rfl rfl (by decide +kernel) ⟨Nat.le_of_ble_eq_true rfl, Nat.le_of_ble_eq_true rfl⟩) (wp_V hP hK hD hN [0, 1] (by decide) rfl (ci := 7) rfl rfl) rfl rfl hl.1 rfl (lv_room (Nat.le_of_ble_eq_true rfl)) dX8_bid_54 ⟨Nat.le_of_ble_eq_true rfl, Nat.le_of_ble_eq_true rfl⟩) hP hD hS hA [0, 1] [] rfl rfl (by decide) (by decide) (fun r_6 u_6 H locs hw_6 hP hD hS => ?_)
              clear k_6
              have hP : va_P D kl [(h, .inr (7, [.ref sl, .int na, .ref zs, .ref ln, .ref ir, .ref tk, .int su, .int le, .ref tb, .int fu, .int ap, .int pp, .ref tr, .int tc, .ref fz, .int nm])), (sl, .inl (cI, 1653, .inl u_6))] H := hP
              have hD : va_D A [(h, .inr (7, [.ref sl, .int na, .ref zs, .ref ln, .ref ir, .ref tk, .int su, .int le, .ref tb, .int fu, .int ap, .int pp, .ref tr, .int tc, .ref fz, .int nm])), (sl, .inl (cI, 1653, .inl u_6))] := hD
              have c6_0 := hw_6
              have c6_0 : SI u_6 v0 := c6_0
              refine lv_istore (lv' := [(7, .int r_6), (6, .int t6_c42), (5, .int t5_c42), (4, .int t4_c42), (0, .ref h), (1, .int v), (2, .int n), (3, .int k)]) hx hb dX8_bid_57 hl (by decide) rfl (fun ls hl => ?_)
              refine lv_iload hx hb dX8_bid_59 (lv_at hl 3 rfl) ?_
              refine lv_if_lt (tgt := 71) hx hb dX8_bid_61 (by decide) (fun c_7 => ?_) (fun c_7 => ?_)
              · have f_7 : t4_c42.toInt < 0 := zi_lt c_7
                refine lv_iload hx hb dX8_bid_71 (lv_at hl 1 rfl) ?_
                refine lv_istore (lv' := [(4, .int t6_c42), (7, .int r_6), (6, .int t6_c42), (5, .int t5_c42), (0, .ref h), (1, .int v), (2, .int n), (3, .int k)]) hx hb dX8_bid_73 hl (by decide) rfl (fun ls hl => ?_)
                refine lv_iload hx hb dX8_bid_75 (lv_at hl 1 rfl) ?_
                refine lv_istore (lv' := [(5, .int r_6), (4, .int t6_c42), (7, .int r_6), (6, .int t6_c42), (0, .ref h), (1, .int v), (2, .int n), (3, .int k)]) hx hb dX8_bid_77 hl (by decide) rfl (fun ls hl => ?_)
                obtain ⟨x_8, ex_8⟩ : ∃ y : Int32, y = t6_c42 + Int32.ofInt 1 := ⟨_, rfl⟩
                refine lv_iinc (v := x_8) (lv' := [(6, .int x_8), (5, .int r_6), (4, .int t6_c42), (7, .int r_6), (0, .ref h), (1, .int v), (2, .int n), (3, .int k)]) hx hb dX8_bid_79 hl (k := 3) rfl ex_8.symm (by decide) rfl (fun ls hl => ?_)
                have ex_8 : x_8 = t6_c42 + 1 := ex_8
                have e_8 : x_8.toInt = t6_c42.toInt + 1 := by rw [ex_8]; exact zi_add (rfl) (by decide) (by omega) (by omega)
                clear ex_8
                refine lv_goto (tgt := 42) hx hb dX8_bid_82 (by decide) ?_
                exact ih42 x_8 r_6 t6_c42 u_6 _ _ _ (show 0 ≤ x_8.toInt ∧ x_8.toInt ≤ 21 from by omega) c6_0 (by omega) (hP.sub [0, 1] rfl) (hD.sub [0, 1] (by decide) rfl) hS (lv_sub hl [0, 1, 2, 4, 5, 6, 7] rfl)
              · have f_7 : ¬ t4_c42.toInt < 0 := zi_nlt c_7
                refine lv_iload hx hb dX8_bid_64 (lv_at hl 0 rfl) ?_
                refine lv_iload hx hb dX8_bid_66 (lv_at hl 2 rfl) ?_
                refine lv_icmp_le (tgt := 79) hx hb dX8_bid_68 (by decide) (fun c_9 => ?_) (fun c_9 => ?_)
                · have f_9 : r_6.toInt ≤ t5_c42.toInt := zi_le c_9
                  obtain ⟨x_10, ex_10⟩ : ∃ y : Int32, y = t6_c42 + Int32.ofInt 1 := ⟨_, rfl⟩
                  refine lv_iinc (v := x_10) (lv' := [(6, .int x_10), (7, .int r_6), (5, .int t5_c42), (4, .int t4_c42), (0, .ref h), (1, .int v), (2, .int n), (3, .int k)]) hx hb dX8_bid_79 hl (k := 1) rfl ex_10.symm (by decide) rfl (fun ls hl => ?_)
                  have ex_10 : x_10 = t6_c42 + 1 := ex_10
                  have e_10 : x_10.toInt = t6_c42.toInt + 1 := by rw [ex_10]; exact zi_add (rfl) (by decide) (by omega) (by omega)
                  clear ex_10
                  refine lv_goto (tgt := 42) hx hb dX8_bid_82 (by decide) ?_
                  exact ih42 x_10 t5_c42 t4_c42 u_6 _ _ _ (show 0 ≤ x_10.toInt ∧ x_10.toInt ≤ 21 from by omega) c6_0 (by omega) (hP.sub [0, 1] rfl) (hD.sub [0, 1] (by decide) rfl) hS (lv_sub hl [0, 2, 3, 4, 5, 6, 7] rfl)
                · have f_9 : ¬ r_6.toInt ≤ t5_c42.toInt := zi_nle c_9
                  refine lv_iload hx hb dX8_bid_71 (lv_at hl 1 rfl) ?_
                  refine lv_istore (lv' := [(4, .int t6_c42), (7, .int r_6), (6, .int t6_c42), (5, .int t5_c42), (0, .ref h), (1, .int v), (2, .int n), (3, .int k)]) hx hb dX8_bid_73 hl (by decide) rfl (fun ls hl => ?_)
                  refine lv_iload hx hb dX8_bid_75 (lv_at hl 1 rfl) ?_
                  refine lv_istore (lv' := [(5, .int r_6), (4, .int t6_c42), (7, .int r_6), (6, .int t6_c42), (0, .ref h), (1, .int v), (2, .int n), (3, .int k)]) hx hb dX8_bid_77 hl (by decide) rfl (fun ls hl => ?_)
                  obtain ⟨x_11, ex_11⟩ : ∃ y : Int32, y = t6_c42 + Int32.ofInt 1 := ⟨_, rfl⟩
                  refine lv_iinc (v := x_11) (lv' := [(6, .int x_11), (5, .int r_6), (4, .int t6_c42), (7, .int r_6), (0, .ref h), (1, .int v), (2, .int n), (3, .int k)]) hx hb dX8_bid_79 hl (k := 3) rfl ex_11.symm (by decide) rfl (fun ls hl => ?_)
                  have ex_11 : x_11 = t6_c42 + 1 := ex_11
                  have e_11 : x_11.toInt = t6_c42.toInt + 1 := by rw [ex_11]; exact zi_add (rfl) (by decide) (by omega) (by omega)
                  clear ex_11
                  refine lv_goto (tgt := 42) hx hb dX8_bid_82 (by decide) ?_
                  exact ih42 x_11 r_6 t6_c42 u_6 _ _ _ (show 0 ≤ x_11.toInt ∧ x_11.toInt ≤ 21 from by omega) c6_0 (by omega) (hP.sub [0, 1] rfl) (hD.sub [0, 1] (by decide) rfl) hS (lv_sub hl [0, 1, 2, 4, 5, 6, 7] rfl)
        exact hL42 (((21 - (0 : Int32).toInt).toNat) + 1) 0 0 (-1) sf _ _ _ (show 0 ≤ 0 ∧ 0 ≤ 21 from by omega) hsi (Nat.lt_succ_self _) (hP.sub [0, 1] rfl) (hD.sub [0, 1] (by decide) rfl) hS (lv_sub hl [0, 1, 2, 3, 4, 5, 6] rfl)
      · subst e_3
        have f_3 : ¬ ((0 : Int) ≤ k.toInt ∧ k.toInt ≤ (1 : Int)) := by
          have h8 := f_3
          try simp only [zl_of] at h8
          exact h8
        refine lv_if_ne (tgt := 33) hx hb dX8_bid_27 (by decide) (fun c9 => absurd (by decide) c9) (fun _ => ?_)
        refine lv_ldc (v := (-1000001)) hx hb hown (hts (.constant RX8 48 (-1000001)) (List.mem_of_getElem? (i := 2) rfl)) dX8_bid_30 ?_
        exact wr_i (v := (-1000001)) hx hb hr hlocks hS sf (by exact hsi) (hP.sub [0, 1] rfl) (hD.sub [0, 1] (by decide) rfl) dX8_bid_32
    · subst e_2
      have f_2 : ¬ ((1 : Int) ≤ n.toInt ∧ n.toInt ≤ (50 : Int)) := by
        have h8 := f_2
        try simp only [zl_of] at h8
        exact h8
      refine lv_if_eq (tgt := 30) hx hb dX8_bid_17 (by decide) (fun _ => ?_) (fun c9 => absurd (by decide) c9)
      refine lv_ldc (v := (-1000001)) hx hb hown (hts (.constant RX8 48 (-1000001)) (List.mem_of_getElem? (i := 2) rfl)) dX8_bid_30 ?_
      exact wr_i (v := (-1000001)) hx hb hr hlocks hS sf (by exact hsi) (hP.sub [0, 1] rfl) (hD.sub [0, 1] (by decide) rfl) dX8_bid_32
  · subst e_1
    refine lv_if_eq (tgt := 30) hx hb dX8_bid_5 (by decide) (fun _ => ?_) (fun c9 => absurd (by decide) c9)
    refine lv_ldc (v := (-1000001)) hx hb hown (hts (.constant RX8 48 (-1000001)) (List.mem_of_getElem? (i := 2) rfl)) dX8_bid_30 ?_
    exact wr_i (v := (-1000001)) hx hb hr hlocks hS sf (by exact hsi) (hP.sub [0, 1] rfl) (hD.sub [0, 1] (by decide) rfl) dX8_bid_32
set_option maxHeartbeats 4000000 in
set_option maxRecDepth 100000 in
theorem g_X8_rests (l : Launch) (D : va_G) (cI cB cQ : ClassId) (sz : Nat) (h : Nat) (sl : Nat) (zs : Nat) (ln : Nat) (ir : Nat) (tk : Nat) (tb : Nat) (tr : Nat) (fz : Nat) (na : Int32) (su : Int32) (le : Int32) (fu : Int32) (ap : Int32) (pp : Int32) (tc : Int32) (nm : Int32) (n : Int32) (sf : Nat → Int32) (v0 : Int) (hsi : SI sf v0) : mi l yX8_rests wsX8_rests ({ frames := 6, cells := 0, slots := 0, locals := 149 }) D cI cB cQ [.ref h, .int n] sz [(h, .inr (7, [.ref sl, .int na, .ref zs, .ref ln, .ref ir, .ref tk, .int su, .int le, .ref tb, .int fu, .int ap, .int pp, .ref tr, .int tc, .ref fz, .int nm])), (sl, .inl (cI, 1653, .inl sf))] (fun (r : Int32) (u : (Nat → Int32)) => (SI u v0)) (fun u => [(h, .inr (7, [.ref sl, .int na, .ref zs, .ref ln, .ref ir, .ref tk, .int su, .int le, .ref tb, .int fu, .int ap, .int pp, .ref tr, .int tc, .ref fz, .int nm])), (sl, .inl (cI, 1653, .inl u))]) 0 0 := by
  refine wm_i (cc := cX8_rests) (maxL := 6) (ret := (some .int)) (by decide) rfl (Nat.le_of_ble_eq_true rfl) ?_
  intro p e s m below meth c A ls hx hb hr hml hown hts hlocks hin hP hK hD hN hA hl hS
  have hown : s.vm.findClass RX8 = some m.cls := hown
  have hl : lv_has ls 6 [(0, .ref h), (1, .int n)] := hl
  change W p l e ({ frames := 6, cells := 0, slots := 0, locals := 149 }) s m ([.ref h, .int n] : List Value).toArray below meth c s.heap [] 0 0 (MQ below (va_Qi (fun (r : Int32) (u : (Nat → Int32)) => (SI u v0)) (fun u t => wb D A ((fun u => [(h, .inr (7, [.ref sl, .int na, .ref zs, .ref ln, .ref ir, .ref tk, .int su, .int le, .ref tb, .int fu, .int ap, .int pp, .ref tr, .int tc, .ref fz, .int nm])), (sl, .inl (cI, 1653, .inl u))]) u) t) A) ([.ref h, .int n] : List Value).toArray s 0 0 A) (F0 m 0 ls [])
  refine lv_aload_n hx hb dX8_rests_0 rfl (lv_at hl 0 rfl) ?_
  refine va_get (D := D) (ci := 7) (v := .ref sl) (C := RX8) (T := TX8) (N := 16) hx hb hts (fun _ h => List.mem_cons_of_mem _ (List.mem_append_right _ h)) hown hK hP 0 rfl rfl 0 (by decide) (hts (.fieldLink RX8 7 "WinterWalkModel" "slot" "[I") (List.mem_of_getElem? (i := 1) rfl)) (fun _ h9 => h9) rfl dX8_rests_1 ?_
  refine lv_iconst (v := 1) hx hb dX8_rests_4 (by decide) ?_
  refine va_iald hx hb hK hP 1 0 rfl rfl (zi_in (by decide) (by decide)) dX8_rests_5 ?_
  refine lv_topi (fun x_1 ex_1 => ?_)
  have f_1 : 0 ≤ x_1.toInt ∧ x_1.toInt ≤ 8 := by rw [ex_1]; exact si_v hsi (s := 0) (by decide) (by omega)
  have g_1 : x_1.toInt = v0 := by rw [ex_1]; exact hsi.2
  refine lv_if_ne (tgt := 12) hx hb dX8_rests_6 (by decide) (fun c_2 => ?_) (fun c_2 => ?_)
  · have f_2 : ¬ x_1.toInt = 0 := zi_ne c_2
    refine lv_iload_n hx hb dX8_rests_12 rfl (lv_at hl 1 rfl) ?_
    refine lv_i2l (v := (n.toInt64)) hx hb dX8_rests_13 rfl ?_
    refine lv_lconst (v := 1) hx hb dX8_rests_14 (by decide) ?_
    refine lv_ldc2 (v := 50) hx hb hown (hts (.constantLong RX8 177 (50)) (List.mem_of_getElem? (i := 3) rfl)) dX8_rests_15 ?_
    have k_3 := (g_X8_in l D cI cB cQ s.heap.size (n.toInt64) 1 50)
    refine wc_i (WC := []) (WR := [(h, .inr (7, [.ref sl, .int na, .ref zs, .ref ln, .ref ir, .ref tk, .int su, .int le, .ref tb, .int fu, .int ap, .int pp, .ref tr, .int tc, .ref fz, .int nm])), (sl, .inl (cI, 1653, .inl sf))]) (va_runS (As := [.long (n.toInt64), .long 1, .long 50]) (rest := []) ⟨hx, hb, hml, hown, hts⟩ k_3 (va_cwS 3 hts gX8_rests_X8_in rfl rfl rfl (by decide +kernel) ⟨Nat.le_of_ble_eq_true rfl, Nat.le_of_ble_eq_true rfl⟩) (wp_S hP hK hD hN [] (by decide) rfl) rfl rfl hl.1 rfl (lv_room (Nat.le_of_ble_eq_true rfl)) dX8_rests_18 ⟨Nat.le_of_ble_eq_true rfl, Nat.le_of_ble_eq_true rfl⟩) hP hD hS hA [] [0, 1] rfl rfl (by decide) (by decide) (fun r_3 u_3 H locs hw_3 hP hD hS => ?_)
    clear k_3
    have hP : va_P D kl [(h, .inr (7, [.ref sl, .int na, .ref zs, .ref ln, .ref ir, .ref tk, .int su, .int le, .ref tb, .int fu, .int ap, .int pp, .ref tr, .int tc, .ref fz, .int nm])), (sl, .inl (cI, 1653, .inl sf))] H := hP
    have hD : va_D A [(h, .inr (7, [.ref sl, .int na, .ref zs, .ref ln, .ref ir, .ref tk, .int su, .int le, .ref tb, .int fu, .int ap, .int pp, .ref tr, .int tc, .ref fz, .int nm])), (sl, .inl (cI, 1653, .inl sf))] := hD
    have c3_0 := hw_3
    rcases c3_0 with ⟨e_3, f_3⟩ | ⟨e_3, f_3⟩
    · subst e_3
      have f_3 : (1 : Int) ≤ n.toInt ∧ n.toInt ≤ (50 : Int) := by
        have h8 := f_3
        try simp only [zl_of] at h8
        exact h8
      refine lv_if_ne (tgt := 27) hx hb dX8_rests_21 (by decide) (fun _ => ?_) (fun c9 => absurd c9 (by decide))
      refine lv_iconst (v := 0) hx hb dX8_rests_27 (by decide) ?_
      refine lv_istore_n (lv' := [(2, .int 0), (0, .ref h), (1, .int n)]) hx hb dX8_rests_28 rfl hl (by decide) rfl (fun ls hl => ?_)
      refine lv_iconst (v := 0) hx hb dX8_rests_29 (by decide) ?_
      refine lv_istore_n (lv' := [(3, .int 0), (2, .int 0), (0, .ref h), (1, .int n)]) hx hb dX8_rests_30 rfl hl (by decide) rfl (fun ls hl => ?_)
      have hL31 : ∀ (nf : Nat) (t3_c31 : Int32) (t2_c31 : Int32) (g0_c31 : Nat → Int32) (H : Heap) (locs : List Loc) (ls : Array Slot), (0 ≤ t3_c31.toInt ∧ t3_c31.toInt ≤ 8) → (SI g0_c31 v0) → (8 - t3_c31.toInt).toNat < nf → va_P D kl [(h, .inr (7, [.ref sl, .int na, .ref zs, .ref ln, .ref ir, .ref tk, .int su, .int le, .ref tb, .int fu, .int ap, .int pp, .ref tr, .int tc, .ref fz, .int nm])), (sl, .inl (cI, 1653, .inl g0_c31))] H → va_D A [(h, .inr (7, [.ref sl, .int na, .ref zs, .ref ln, .ref ir, .ref tk, .int su, .int le, .ref tb, .int fu, .int ap, .int pp, .ref tr, .int tc, .ref fz, .int nm])), (sl, .inl (cI, 1653, .inl g0_c31))] → va_S A s.heap H locs → lv_has ls 6 [(3, .int t3_c31), (2, .int t2_c31), (0, .ref h), (1, .int n)] → W p l e ({ frames := 6, cells := 0, slots := 0, locals := 149 }) s m ([.ref h, .int n] : List Value).toArray below meth c H locs 0 0 (MQ below (va_Qi (fun (r : Int32) (u : (Nat → Int32)) => (SI u v0)) (fun u t => wb D A ((fun u => [(h, .inr (7, [.ref sl, .int na, .ref zs, .ref ln, .ref ir, .ref tk, .int su, .int le, .ref tb, .int fu, .int ap, .int pp, .ref tr, .int tc, .ref fz, .int nm])), (sl, .inl (cI, 1653, .inl u))]) u) t) A) ([.ref h, .int n] : List Value).toArray s 0 0 A) (F0 m 31 ls []) := by
        intro nf
        induction nf with
        | zero =>
          intro t3_c31 t2_c31 g0_c31 H locs ls i_t3_c31 ha_g0_c31 hm
          exact absurd hm (Nat.not_lt_zero _)
        | succ nf ih31 =>
          intro t3_c31 t2_c31 g0_c31 H locs ls i_t3_c31 ha_g0_c31 hm31 hP hD hS hl
          refine lv_iload_n hx hb dX8_rests_31 rfl (lv_at hl 0 rfl) ?_
          refine lv_aload_n hx hb dX8_rests_32 rfl (lv_at hl 2 rfl) ?_
          refine va_get (D := D) (ci := 7) (v := .ref sl) (C := RX8) (T := TX8) (N := 16) hx hb hts (fun _ h => List.mem_cons_of_mem _ (List.mem_append_right _ h)) hown hK hP 0 rfl rfl 0 (by decide) (hts (.fieldLink RX8 7 "WinterWalkModel" "slot" "[I") (List.mem_of_getElem? (i := 1) rfl)) (fun _ h9 => h9) rfl dX8_rests_33 ?_
          refine lv_iconst (v := 1) hx hb dX8_rests_36 (by decide) ?_
          refine va_iald hx hb hK hP 1 0 rfl rfl (zi_in (by decide) (by decide)) dX8_rests_37 ?_
          refine lv_topi (fun x_4 ex_4 => ?_)
          have f_4 : 0 ≤ x_4.toInt ∧ x_4.toInt ≤ 8 := by rw [ex_4]; exact si_v ha_g0_c31 (s := 0) (by decide) (by omega)
          have g_4 : x_4.toInt = v0 := by rw [ex_4]; exact ha_g0_c31.2
          refine lv_icmp_ge (tgt := 103) hx hb dX8_rests_38 (by decide) (fun c_5 => ?_) (fun c_5 => ?_)
          · have f_5 : x_4.toInt ≤ t3_c31.toInt := zi_le c_5
            refine lv_iload_n hx hb dX8_rests_103 rfl (lv_at hl 1 rfl) ?_
            exact wr_i (v := t2_c31) hx hb hr hlocks hS g0_c31 (by exact ha_g0_c31) (hP.sub [0, 1] rfl) (hD.sub [0, 1] (by decide) rfl) dX8_rests_104
          · have f_5 : ¬ x_4.toInt ≤ t3_c31.toInt := zi_nle c_5
            refine lv_aload_n hx hb dX8_rests_41 rfl (lv_at hl 2 rfl) ?_
            refine lv_iload_n hx hb dX8_rests_42 rfl (lv_at hl 0 rfl) ?_
            refine lv_aload_n hx hb dX8_rests_43 rfl (lv_at hl 2 rfl) ?_
            refine va_get (D := D) (ci := 7) (v := .ref sl) (C := RX8) (T := TX8) (N := 16) hx hb hts (fun _ h => List.mem_cons_of_mem _ (List.mem_append_right _ h)) hown hK hP 0 rfl rfl 0 (by decide) (hts (.fieldLink RX8 7 "WinterWalkModel" "slot" "[I") (List.mem_of_getElem? (i := 1) rfl)) (fun _ h9 => h9) rfl dX8_rests_44 ?_
            refine lv_bipush (v := 23) hx hb dX8_rests_47 (by decide) ?_
            refine lv_iload_n hx hb dX8_rests_49 rfl (lv_at hl 0 rfl) ?_
            refine lv_iadd hx hb dX8_rests_50 ?_
            refine lv_topi (fun x_6 ex_6 => ?_)
            have e_6 : x_6.toInt = 23 + t3_c31.toInt := by rw [ex_6]; exact zi_add (by decide) (rfl) (by omega) (by omega)
            clear ex_6
            refine va_iald hx hb hK hP 1 0 rfl rfl (zi_in (by omega) (by omega)) dX8_rests_51 ?_
            refine lv_topi (fun x_7 ex_7 => ?_)
            clear ex_7
            refine lv_iload_n hx hb dX8_rests_52 rfl (lv_at hl 3 rfl) ?_
            have k_8 := (g_X8_hasBy l D cI cB cQ H.size h sl zs ln ir tk tb tr fz na su le fu ap pp tc nm t3_c31 x_7 n g0_c31 v0 ha_g0_c31 (by omega) (by omega))
            refine wc_i (WC := [(h, .inr (7, [.ref sl, .int na, .ref zs, .ref ln, .ref ir, .ref tk, .int su, .int le, .ref tb, .int fu, .int ap, .int pp, .ref tr, .int tc, .ref fz, .int nm])), (sl, .inl (cI, 1653, .inl g0_c31))]) (WR := []) (va_runV (As := [.int t3_c31, .int x_7, .int n]) (rest := []) ⟨hx, hb, hml, hown, hts⟩ k_8 (cwV 3 hts gX8_rests_X8_hasBy rfl rfl rfl (by decide +kernel) ⟨Nat.le_of_ble_eq_true rfl, Nat.le_of_ble_eq_true rfl⟩) (wp_V hP hK hD hN [0, 1] (by decide) rfl (ci := 7) rfl rfl) rfl rfl hl.1 rfl (lv_room (Nat.le_of_ble_eq_true rfl)) dX8_rests_53 ⟨Nat.le_of_ble_eq_true rfl, Nat.le_of_ble_eq_true rfl⟩) hP hD hS hA [0, 1] [] rfl rfl (by decide) (by decide) (fun r_8 u_8 H locs hw_8 hP hD hS => ?_)
            clear k_8
            have hP : va_P D kl [(h, .inr (7, [.ref sl, .int na, .ref zs, .ref ln, .ref ir, .ref tk, .int su, .int le, .ref tb, .int fu, .int ap, .int pp, .ref tr, .int tc, .ref fz, .int nm])), (sl, .inl (cI, 1653, .inl u_8))] H := hP
            have hD : va_D A [(h, .inr (7, [.ref sl, .int na, .ref zs, .ref ln, .ref ir, .ref tk, .int su, .int le, .ref tb, .int fu, .int ap, .int pp, .ref tr, .int tc, .ref fz, .int nm])), (sl, .inl (cI, 1653, .inl u_8))] := hD
            have c8_0 := hw_8
            have c8_0 : SI u_8 v0 := c8_0
            refine lv_istore (lv' := [(4, .int r_8), (3, .int t3_c31), (2, .int t2_c31), (0, .ref h), (1, .int n)]) hx hb dX8_rests_56 hl (by decide) rfl (fun ls hl => ?_)
            refine lv_iconst (v := 0) hx hb dX8_rests_58 (by decide) ?_
            refine lv_istore (lv' := [(5, .int 0), (4, .int r_8), (3, .int t3_c31), (2, .int t2_c31), (0, .ref h), (1, .int n)]) hx hb dX8_rests_59 hl (by decide) rfl (fun ls hl => ?_)
            have hL61 : ∀ (nf : Nat) (t5_c61 : Int32) (t2_c61 : Int32) (g0_c61 : Nat → Int32) (H : Heap) (locs : List Loc) (ls : Array Slot), (0 ≤ t5_c61.toInt ∧ t5_c61.toInt ≤ 21) → (SI g0_c61 v0) → (21 - t5_c61.toInt).toNat < nf → va_P D kl [(h, .inr (7, [.ref sl, .int na, .ref zs, .ref ln, .ref ir, .ref tk, .int su, .int le, .ref tb, .int fu, .int ap, .int pp, .ref tr, .int tc, .ref fz, .int nm])), (sl, .inl (cI, 1653, .inl g0_c61))] H → va_D A [(h, .inr (7, [.ref sl, .int na, .ref zs, .ref ln, .ref ir, .ref tk, .int su, .int le, .ref tb, .int fu, .int ap, .int pp, .ref tr, .int tc, .ref fz, .int nm])), (sl, .inl (cI, 1653, .inl g0_c61))] → va_S A s.heap H locs → lv_has ls 6 [(5, .int t5_c61), (4, .int r_8), (3, .int t3_c31), (2, .int t2_c61), (0, .ref h), (1, .int n)] → W p l e ({ frames := 6, cells := 0, slots := 0, locals := 149 }) s m ([.ref h, .int n] : List Value).toArray below meth c H locs 0 0 (MQ below (va_Qi (fun (r : Int32) (u : (Nat → Int32)) => (SI u v0)) (fun u t => wb D A ((fun u => [(h, .inr (7, [.ref sl, .int na, .ref zs, .ref ln, .ref ir, .ref tk, .int su, .int le, .ref tb, .int fu, .int ap, .int pp, .ref tr, .int tc, .ref fz, .int nm])), (sl, .inl (cI, 1653, .inl u))]) u) t) A) ([.ref h, .int n] : List Value).toArray s 0 0 A) (F0 m 61 ls []) := by
              intro nf
              induction nf with
              | zero =>
                intro t5_c61 t2_c61 g0_c61 H locs ls i_t5_c61 ha_g0_c61 hm
                exact absurd hm (Nat.not_lt_zero _)
              | succ nf ih61 =>
                intro t5_c61 t2_c61 g0_c61 H locs ls i_t5_c61 ha_g0_c61 hm61 hP hD hS hl
                refine lv_iload hx hb dX8_rests_61 (lv_at hl 0 rfl) ?_
                refine lv_bipush (v := 21) hx hb dX8_rests_63 (by decide) ?_
                refine lv_icmp_ge (tgt := 97) hx hb dX8_rests_65 (by decide) (fun c_9 => ?_) (fun c_9 => ?_)
                · have f_9 : 21 ≤ t5_c61.toInt := zi_le c_9
                  obtain ⟨x_10, ex_10⟩ : ∃ y : Int32, y = t3_c31 + Int32.ofInt 1 := ⟨_, rfl⟩
                  refine lv_iinc (v := x_10) (lv' := [(3, .int x_10), (5, .int t5_c61), (4, .int r_8), (2, .int t2_c61), (0, .ref h), (1, .int n)]) hx hb dX8_rests_97 hl (k := 2) rfl ex_10.symm (by decide) rfl (fun ls hl => ?_)
                  have ex_10 : x_10 = t3_c31 + 1 := ex_10
                  have e_10 : x_10.toInt = t3_c31.toInt + 1 := by rw [ex_10]; exact zi_add (rfl) (by decide) (by omega) (by omega)
                  clear ex_10
                  refine lv_goto (tgt := 31) hx hb dX8_rests_100 (by decide) ?_
                  exact ih31 x_10 t2_c61 g0_c61 _ _ _ (show 0 ≤ x_10.toInt ∧ x_10.toInt ≤ 8 from by omega) ha_g0_c61 (by omega) (hP.sub [0, 1] rfl) (hD.sub [0, 1] (by decide) rfl) hS (lv_sub hl [0, 3, 4, 5] rfl)
                · have f_9 : ¬ 21 ≤ t5_c61.toInt := zi_nle c_9
                  refine lv_iload_n hx hb dX8_rests_68 rfl (lv_at hl 3 rfl) ?_
                  refine lv_aload_n hx hb dX8_rests_69 rfl (lv_at hl 4 rfl) ?_
                  refine lv_iload_n hx hb dX8_rests_70 rfl (lv_at hl 2 rfl) ?_
                  refine lv_iload hx hb dX8_rests_71 (lv_at hl 0 rfl) ?_
                  refine lv_iload_n hx hb dX8_rests_73 rfl (lv_at hl 5 rfl) ?_
                  have k_11 := (g_X8_hasBy l D cI cB cQ H.size h sl zs ln ir tk tb tr fz na su le fu ap pp tc nm t3_c31 t5_c61 n g0_c61 v0 ha_g0_c61 (by omega) (by omega))
                  refine wc_i (WC := [(h, .inr (7, [.ref sl, .int na, .ref zs, .ref ln, .ref ir, .ref tk, .int su, .int le, .ref tb, .int fu, .int ap, .int pp, .ref tr, .int tc, .ref fz, .int nm])), (sl, .inl (cI, 1653, .inl g0_c61))]) (WR := []) (va_runV (As := [.int t3_c31, .int t5_c61, .int n]) (rest := [.int t2_c61]) ⟨hx, hb, hml, hown, hts⟩ k_11 (cwV 3 hts gX8_rests_X8_hasBy rfl rfl rfl (by decide +kernel) ⟨Nat.le_of_ble_eq_true rfl, Nat.le_of_ble_eq_true rfl⟩) (wp_V hP hK hD hN [0, 1] (by decide) rfl (ci := 7) rfl rfl) rfl rfl hl.1 rfl (lv_room (Nat.le_of_ble_eq_true rfl)) dX8_rests_74 ⟨Nat.le_of_ble_eq_true rfl, Nat.le_of_ble_eq_true rfl⟩) hP hD hS hA [0, 1] [] rfl rfl (by decide) (by decide) (fun r_11 u_11 H locs hw_11 hP hD hS => ?_)
                  clear k_11
                  have hP : va_P D kl [(h, .inr (7, [.ref sl, .int na, .ref zs, .ref ln, .ref ir, .ref tk, .int su, .int le, .ref tb, .int fu, .int ap, .int pp, .ref tr, .int tc, .ref fz, .int nm])), (sl, .inl (cI, 1653, .inl u_11))] H := hP
                  have hD : va_D A [(h, .inr (7, [.ref sl, .int na, .ref zs, .ref ln, .ref ir, .ref tk, .int su, .int le, .ref tb, .int fu, .int ap, .int pp, .ref tr, .int tc, .ref fz, .int nm])), (sl, .inl (cI, 1653, .inl u_11))] := hD
                  have c11_0 := hw_11
                  have c11_0 : SI u_11 v0 := c11_0
                  refine lv_iload hx hb dX8_rests_77 (lv_at hl 1 rfl) ?_
                  refine lv_icmp_le (tgt := 88) hx hb dX8_rests_79 (by decide) (fun c_12 => ?_) (fun c_12 => ?_)
                  · have f_12 : r_11.toInt ≤ r_8.toInt := zi_le c_12
                    refine lv_iconst (v := 0) hx hb dX8_rests_88 (by decide) ?_
                    refine lv_ior hx hb dX8_rests_89 ?_
                    refine lv_topi (fun x_13 ex_13 => ?_)
                    clear ex_13
                    refine lv_istore_n (lv' := [(2, .int x_13), (5, .int t5_c61), (4, .int r_8), (3, .int t3_c31), (0, .ref h), (1, .int n)]) hx hb dX8_rests_90 rfl hl (by decide) rfl (fun ls hl => ?_)
                    obtain ⟨x_14, ex_14⟩ : ∃ y : Int32, y = t5_c61 + Int32.ofInt 1 := ⟨_, rfl⟩
                    refine lv_iinc (v := x_14) (lv' := [(5, .int x_14), (2, .int x_13), (4, .int r_8), (3, .int t3_c31), (0, .ref h), (1, .int n)]) hx hb dX8_rests_91 hl (k := 1) rfl ex_14.symm (by decide) rfl (fun ls hl => ?_)
                    have ex_14 : x_14 = t5_c61 + 1 := ex_14
                    have e_14 : x_14.toInt = t5_c61.toInt + 1 := by rw [ex_14]; exact zi_add (rfl) (by decide) (by omega) (by omega)
                    clear ex_14
                    refine lv_goto (tgt := 61) hx hb dX8_rests_94 (by decide) ?_
                    exact ih61 x_14 x_13 u_11 _ _ _ (show 0 ≤ x_14.toInt ∧ x_14.toInt ≤ 21 from by omega) c11_0 (by omega) (hP.sub [0, 1] rfl) (hD.sub [0, 1] (by decide) rfl) hS (lv_sub hl [0, 2, 3, 1, 4, 5] rfl)
                  · have f_12 : ¬ r_11.toInt ≤ r_8.toInt := zi_nle c_12
                    refine lv_iconst (v := 1) hx hb dX8_rests_82 (by decide) ?_
                    refine lv_iload_n hx hb dX8_rests_83 rfl (lv_at hl 2 rfl) ?_
                    refine lv_ishl hx hb dX8_rests_84 ?_
                    refine lv_topi (fun x_15 ex_15 => ?_)
                    have e_15 : 1 ≤ x_15.toInt ∧ x_15.toInt ≤ 256 := by rw [ex_15]; exact zi_sh (by omega)
                    clear ex_15
                    refine lv_goto (tgt := 89) hx hb dX8_rests_85 (by decide) ?_
                    refine lv_ior hx hb dX8_rests_89 ?_
                    refine lv_topi (fun x_16 ex_16 => ?_)
                    clear ex_16
                    refine lv_istore_n (lv' := [(2, .int x_16), (5, .int t5_c61), (4, .int r_8), (3, .int t3_c31), (0, .ref h), (1, .int n)]) hx hb dX8_rests_90 rfl hl (by decide) rfl (fun ls hl => ?_)
                    obtain ⟨x_17, ex_17⟩ : ∃ y : Int32, y = t5_c61 + Int32.ofInt 1 := ⟨_, rfl⟩
                    refine lv_iinc (v := x_17) (lv' := [(5, .int x_17), (2, .int x_16), (4, .int r_8), (3, .int t3_c31), (0, .ref h), (1, .int n)]) hx hb dX8_rests_91 hl (k := 1) rfl ex_17.symm (by decide) rfl (fun ls hl => ?_)
                    have ex_17 : x_17 = t5_c61 + 1 := ex_17
                    have e_17 : x_17.toInt = t5_c61.toInt + 1 := by rw [ex_17]; exact zi_add (rfl) (by decide) (by omega) (by omega)
                    clear ex_17
                    refine lv_goto (tgt := 61) hx hb dX8_rests_94 (by decide) ?_
                    exact ih61 x_17 x_16 u_11 _ _ _ (show 0 ≤ x_17.toInt ∧ x_17.toInt ≤ 21 from by omega) c11_0 (by omega) (hP.sub [0, 1] rfl) (hD.sub [0, 1] (by decide) rfl) hS (lv_sub hl [0, 2, 3, 1, 4, 5] rfl)
            exact hL61 (((21 - (0 : Int32).toInt).toNat) + 1) 0 t2_c31 u_8 _ _ _ (show 0 ≤ 0 ∧ 0 ≤ 21 from by omega) c8_0 (Nat.lt_succ_self _) (hP.sub [0, 1] rfl) (hD.sub [0, 1] (by decide) rfl) hS (lv_sub hl [0, 1, 2, 3, 4, 5] rfl)
      exact hL31 (((8 - (0 : Int32).toInt).toNat) + 1) 0 0 sf _ _ _ (show 0 ≤ 0 ∧ 0 ≤ 8 from by omega) hsi (Nat.lt_succ_self _) (hP.sub [0, 1] rfl) (hD.sub [0, 1] (by decide) rfl) hS (lv_sub hl [0, 1, 2, 3] rfl)
    · subst e_3
      have f_3 : ¬ ((1 : Int) ≤ n.toInt ∧ n.toInt ≤ (50 : Int)) := by
        have h8 := f_3
        try simp only [zl_of] at h8
        exact h8
      refine lv_if_ne (tgt := 27) hx hb dX8_rests_21 (by decide) (fun c9 => absurd (by decide) c9) (fun _ => ?_)
      refine lv_ldc (v := (-1000001)) hx hb hown (hts (.constant RX8 48 (-1000001)) (List.mem_of_getElem? (i := 4) rfl)) dX8_rests_24 ?_
      exact wr_i (v := (-1000001)) hx hb hr hlocks hS sf (by exact hsi) (hP.sub [0, 1] rfl) (hD.sub [0, 1] (by decide) rfl) dX8_rests_26
  · have f_2 : x_1.toInt = 0 := zi_eq c_2
    refine lv_ldc (v := (-1000002)) hx hb hown (hts (.constant RX8 121 (-1000002)) (List.mem_of_getElem? (i := 2) rfl)) dX8_rests_9 ?_
    exact wr_i (v := (-1000002)) hx hb hr hlocks hS sf (by exact hsi) (hP.sub [0, 1] rfl) (hD.sub [0, 1] (by decide) rfl) dX8_rests_11
set_option maxHeartbeats 4000000 in
set_option maxRecDepth 100000 in
theorem g_X8_why (l : Launch) (D : va_G) (cI cB cQ : ClassId) (sz : Nat) (h : Nat) (sl : Nat) (zs : Nat) (ln : Nat) (ir : Nat) (tk : Nat) (tb : Nat) (tr : Nat) (fz : Nat) (na : Int32) (su : Int32) (le : Int32) (fu : Int32) (ap : Int32) (pp : Int32) (tc : Int32) (nm : Int32) (a : Int32) (i : Int32) (n : Int32) (zf : Nat → Int32) (hz : ∀ j, j < 8 → (-1) ≤ (zf j).toInt ∧ (zf j).toInt ≤ 40) (h_a : 0 ≤ a.toInt ∧ a.toInt ≤ 7) (h_n : 1 ≤ n.toInt ∧ n.toInt ≤ 24) : mi l yX8_why wsX8_why ({ frames := 0, cells := 0, slots := 0, locals := 0 }) D cI cB cQ [.ref h, .int a, .int i, .int n] sz [(h, .inr (7, [.ref sl, .int na, .ref zs, .ref ln, .ref ir, .ref tk, .int su, .int le, .ref tb, .int fu, .int ap, .int pp, .ref tr, .int tc, .ref fz, .int nm])), (zs, .inl (cI, 8, .inl zf))] (fun (r : Int32) (_u : Unit) => ((r = 0 ∧ 0 ≤ i.toInt ∧ i.toInt ≤ 40 ∧ i.toInt + n.toInt ≤ 40) ∨ (r = 1) ∨ (r = 2))) (fun _ => [(h, .inr (7, [.ref sl, .int na, .ref zs, .ref ln, .ref ir, .ref tk, .int su, .int le, .ref tb, .int fu, .int ap, .int pp, .ref tr, .int tc, .ref fz, .int nm])), (zs, .inl (cI, 8, .inl zf))]) 0 0 := by
  refine wm_i (cc := cX8_why) (maxL := 4) (ret := (some .int)) (by decide) rfl (Nat.le_of_ble_eq_true rfl) ?_
  intro p e s m below meth c A ls hx hb hr hml hown hts hlocks hin hP hK hD hN hA hl hS
  have hown : s.vm.findClass RX8 = some m.cls := hown
  have hl : lv_has ls 4 [(0, .ref h), (1, .int a), (2, .int i), (3, .int n)] := hl
  change W p l e ({ frames := 0, cells := 0, slots := 0, locals := 0 }) s m ([.ref h, .int a, .int i, .int n] : List Value).toArray below meth c s.heap [] 0 0 (MQ below (va_Qi (fun (r : Int32) (_u : Unit) => ((r = 0 ∧ 0 ≤ i.toInt ∧ i.toInt ≤ 40 ∧ i.toInt + n.toInt ≤ 40) ∨ (r = 1) ∨ (r = 2))) (fun u t => wb D A ((fun _ => [(h, .inr (7, [.ref sl, .int na, .ref zs, .ref ln, .ref ir, .ref tk, .int su, .int le, .ref tb, .int fu, .int ap, .int pp, .ref tr, .int tc, .ref fz, .int nm])), (zs, .inl (cI, 8, .inl zf))]) u) t) A) ([.ref h, .int a, .int i, .int n] : List Value).toArray s 0 0 A) (F0 m 0 ls [])
  have hb_i := zi_lo i
  have hc_i := zi_hi i
  refine lv_aload_n hx hb dX8_why_0 rfl (lv_at hl 0 rfl) ?_
  refine va_get (D := D) (ci := 7) (v := .ref zs) (C := RX8) (T := TX8) (N := 16) hx hb hts (fun _ h => List.mem_cons_of_mem _ (List.mem_append_right _ h)) hown hK hP 0 rfl rfl 2 (by decide) (hts (.fieldLink RX8 13 "WinterWalkModel" "size" "[I") (List.mem_of_getElem? (i := 1) rfl)) (fun _ h9 => h9) rfl dX8_why_1 ?_
  refine lv_iload_n hx hb dX8_why_4 rfl (lv_at hl 1 rfl) ?_
  refine va_iald hx hb hK hP 1 0 rfl rfl (zi_in (by omega) (by omega)) dX8_why_5 ?_
  refine lv_topi (fun x_1 ex_1 => ?_)
  have f_1 : (-1) ≤ x_1.toInt ∧ x_1.toInt ≤ 40 := by rw [ex_1]; exact hz _ (zi_cl (by omega) (by omega))
  clear ex_1
  refine lv_if_ge (tgt := 13) hx hb dX8_why_6 (by decide) (fun c_2 => ?_) (fun c_2 => ?_)
  · have f_2 : 0 ≤ x_1.toInt := zi_le c_2
    refine lv_iload_n hx hb dX8_why_13 rfl (lv_at hl 2 rfl) ?_
    refine lv_if_lt (tgt := 33) hx hb dX8_why_14 (by decide) (fun c_3 => ?_) (fun c_3 => ?_)
    · have f_3 : i.toInt < 0 := zi_lt c_3
      refine lv_iconst (v := 2) hx hb dX8_why_33 (by decide) ?_
      refine lv_goto (tgt := 38) hx hb dX8_why_34 (by decide) ?_
      exact wr_i (v := 2) hx hb hr hlocks hS () (by exact Or.inr (Or.inr (rfl))) (hP.sub [0, 1] rfl) (hD.sub [0, 1] (by decide) rfl) dX8_why_38
    · have f_3 : ¬ i.toInt < 0 := zi_nlt c_3
      refine lv_iload_n hx hb dX8_why_17 rfl (lv_at hl 2 rfl) ?_
      refine lv_i2l (v := (i.toInt64)) hx hb dX8_why_18 rfl ?_
      refine lv_iload_n hx hb dX8_why_19 rfl (lv_at hl 3 rfl) ?_
      refine lv_i2l (v := (n.toInt64)) hx hb dX8_why_20 rfl ?_
      refine lv_ladd hx hb dX8_why_21 ?_
      refine lv_topl (fun x_4 ex_4 => ?_)
      have e_4 : x_4.toInt = i.toInt + n.toInt := by rw [ex_4]; exact zl_add (zl_of _) (zl_of _) (by omega) (by omega)
      clear ex_4
      refine lv_aload_n hx hb dX8_why_22 rfl (lv_at hl 0 rfl) ?_
      refine va_get (D := D) (ci := 7) (v := .ref zs) (C := RX8) (T := TX8) (N := 16) hx hb hts (fun _ h => List.mem_cons_of_mem _ (List.mem_append_right _ h)) hown hK hP 0 rfl rfl 2 (by decide) (hts (.fieldLink RX8 13 "WinterWalkModel" "size" "[I") (List.mem_of_getElem? (i := 1) rfl)) (fun _ h9 => h9) rfl dX8_why_23 ?_
      refine lv_iload_n hx hb dX8_why_26 rfl (lv_at hl 1 rfl) ?_
      refine va_iald hx hb hK hP 1 0 rfl rfl (zi_in (by omega) (by omega)) dX8_why_27 ?_
      refine lv_topi (fun x_5 ex_5 => ?_)
      have f_5 : (-1) ≤ x_5.toInt ∧ x_5.toInt ≤ 40 := by rw [ex_5]; exact hz _ (zi_cl (by omega) (by omega))
      clear ex_5
      refine lv_i2l (v := (x_5.toInt64)) hx hb dX8_why_28 rfl ?_
      refine W.lcmp hx hb dX8_why_29 ?_
      refine lv_topi (fun x_6 ex_6 => ?_)
      rcases zc_cases x_4 (x_5.toInt64) with ⟨h1, f_6⟩ | ⟨h1, f_6⟩ | ⟨h1, f_6⟩
      · obtain rfl : x_6 = 1 := ex_6.trans h1
        have f_6 : x_5.toInt < x_4.toInt := by
          have h8 := f_6
          try simp only [zl_of] at h8
          exact h8
        refine lv_if_le (tgt := 37) hx hb dX8_why_30 (by decide) (fun c9 => absurd c9 (by decide)) (fun _ => ?_)
        refine lv_iconst (v := 2) hx hb dX8_why_33 (by decide) ?_
        refine lv_goto (tgt := 38) hx hb dX8_why_34 (by decide) ?_
        exact wr_i (v := 2) hx hb hr hlocks hS () (by exact Or.inr (Or.inr (rfl))) (hP.sub [0, 1] rfl) (hD.sub [0, 1] (by decide) rfl) dX8_why_38
      · obtain rfl : x_6 = 0 := ex_6.trans h1
        have f_6 : x_4.toInt = x_5.toInt := by
          have h8 := f_6
          try simp only [zl_of] at h8
          exact h8
        refine lv_if_le (tgt := 37) hx hb dX8_why_30 (by decide) (fun _ => ?_) (fun c9 => absurd (by decide) c9)
        refine lv_iconst (v := 0) hx hb dX8_why_37 (by decide) ?_
        exact wr_i (v := 0) hx hb hr hlocks hS () (by exact Or.inl ⟨rfl, show 0 ≤ i.toInt ∧ i.toInt ≤ 40 ∧ i.toInt + n.toInt ≤ 40 from by omega⟩) (hP.sub [0, 1] rfl) (hD.sub [0, 1] (by decide) rfl) dX8_why_38
      · obtain rfl : x_6 = (-1) := ex_6.trans h1
        have f_6 : x_4.toInt < x_5.toInt := by
          have h8 := f_6
          try simp only [zl_of] at h8
          exact h8
        refine lv_if_le (tgt := 37) hx hb dX8_why_30 (by decide) (fun _ => ?_) (fun c9 => absurd (by decide) c9)
        refine lv_iconst (v := 0) hx hb dX8_why_37 (by decide) ?_
        exact wr_i (v := 0) hx hb hr hlocks hS () (by exact Or.inl ⟨rfl, show 0 ≤ i.toInt ∧ i.toInt ≤ 40 ∧ i.toInt + n.toInt ≤ 40 from by omega⟩) (hP.sub [0, 1] rfl) (hD.sub [0, 1] (by decide) rfl) dX8_why_38
  · have f_2 : ¬ 0 ≤ x_1.toInt := zi_nle c_2
    refine lv_iconst (v := 1) hx hb dX8_why_9 (by decide) ?_
    refine lv_goto (tgt := 38) hx hb dX8_why_10 (by decide) ?_
    exact wr_i (v := 1) hx hb hr hlocks hS () (by exact Or.inr (Or.inl rfl)) (hP.sub [0, 1] rfl) (hD.sub [0, 1] (by decide) rfl) dX8_why_38
set_option maxHeartbeats 4000000 in
set_option maxRecDepth 100000 in
theorem g_X8_fits (l : Launch) (D : va_G) (cI cB cQ : ClassId) (sz : Nat) (h : Nat) (sl : Nat) (zs : Nat) (ln : Nat) (ir : Nat) (tk : Nat) (tb : Nat) (tr : Nat) (fz : Nat) (na : Int32) (su : Int32) (le : Int32) (fu : Int32) (ap : Int32) (pp : Int32) (tc : Int32) (nm : Int32) (v : Int32) (a : Int32) (i : Int32) (n : Int32) (sf : Nat → Int32) (zf : Nat → Int32) (irf : Nat → Int32) (v0 : Int) (hsi : SI sf v0) (hz : ∀ j, j < 8 → (-1) ≤ (zf j).toInt ∧ (zf j).toInt ≤ 40) : mi l yX8_fits wsX8_fits ({ frames := 5, cells := 0, slots := 0, locals := 122 }) D cI cB cQ [.ref h, .int v, .int a, .int i, .int n] sz [(h, .inr (7, [.ref sl, .int na, .ref zs, .ref ln, .ref ir, .ref tk, .int su, .int le, .ref tb, .int fu, .int ap, .int pp, .ref tr, .int tc, .ref fz, .int nm])), (sl, .inl (cI, 1653, .inl sf)), (zs, .inl (cI, 8, .inl zf)), (ir, .inl (cI, 320, .inl irf))] (fun (r : Int32) (u : (Nat → Int32) × Int32) => (SI u.1 v0)) (fun u => [(h, .inr (7, [.ref sl, .int na, .ref zs, .ref ln, .ref ir, .ref tk, .int u.2, .int le, .ref tb, .int fu, .int ap, .int pp, .ref tr, .int tc, .ref fz, .int nm])), (sl, .inl (cI, 1653, .inl u.1)), (zs, .inl (cI, 8, .inl zf)), (ir, .inl (cI, 320, .inl irf))]) 0 0 := by
  refine wm_i (cc := cX8_fits) (maxL := 10) (ret := (some .int)) (by decide) rfl (Nat.le_of_ble_eq_true rfl) ?_
  intro p e s m below meth c A ls hx hb hr hml hown hts hlocks hin hP hK hD hN hA hl hS
  have hown : s.vm.findClass RX8 = some m.cls := hown
  have hl : lv_has ls 10 [(0, .ref h), (1, .int v), (2, .int a), (3, .int i), (4, .int n)] := hl
  change W p l e ({ frames := 5, cells := 0, slots := 0, locals := 122 }) s m ([.ref h, .int v, .int a, .int i, .int n] : List Value).toArray below meth c s.heap [] 0 0 (MQ below (va_Qi (fun (r : Int32) (u : (Nat → Int32) × Int32) => (SI u.1 v0)) (fun u t => wb D A ((fun u => [(h, .inr (7, [.ref sl, .int na, .ref zs, .ref ln, .ref ir, .ref tk, .int u.2, .int le, .ref tb, .int fu, .int ap, .int pp, .ref tr, .int tc, .ref fz, .int nm])), (sl, .inl (cI, 1653, .inl u.1)), (zs, .inl (cI, 8, .inl zf)), (ir, .inl (cI, 320, .inl irf))]) u) t) A) ([.ref h, .int v, .int a, .int i, .int n] : List Value).toArray s 0 0 A) (F0 m 0 ls [])
  refine lv_aload_n hx hb dX8_fits_0 rfl (lv_at hl 0 rfl) ?_
  refine lv_iload_n hx hb dX8_fits_1 rfl (lv_at hl 1 rfl) ?_
  have k_1 := (g_X8_isWalkerThere l D cI cB cQ s.heap.size h sl zs ln ir tk tb tr fz na su le fu ap pp tc nm v sf v0 hsi)
  refine wc_i (WC := [(h, .inr (7, [.ref sl, .int na, .ref zs, .ref ln, .ref ir, .ref tk, .int su, .int le, .ref tb, .int fu, .int ap, .int pp, .ref tr, .int tc, .ref fz, .int nm])), (sl, .inl (cI, 1653, .inl sf))]) (WR := [(zs, .inl (cI, 8, .inl zf)), (ir, .inl (cI, 320, .inl irf))]) (va_runV (As := [.int v]) (rest := []) ⟨hx, hb, hml, hown, hts⟩ k_1 (cwV 1 hts gX8_fits_X8_isWalkerThere rfl rfl rfl (by decide +kernel) ⟨Nat.le_of_ble_eq_true rfl, Nat.le_of_ble_eq_true rfl⟩) (wp_V hP hK hD hN [0, 1] (by decide) rfl (ci := 7) rfl rfl) rfl rfl hl.1 rfl (lv_room (Nat.le_of_ble_eq_true rfl)) dX8_fits_2 ⟨Nat.le_of_ble_eq_true rfl, Nat.le_of_ble_eq_true rfl⟩) hP hD hS hA [0, 1] [2, 3] rfl rfl (by decide) (by decide) (fun r_1 u_1 H locs hw_1 hP hD hS => ?_)
  clear k_1
  have hP : va_P D kl [(zs, .inl (cI, 8, .inl zf)), (ir, .inl (cI, 320, .inl irf)), (h, .inr (7, [.ref sl, .int na, .ref zs, .ref ln, .ref ir, .ref tk, .int su, .int le, .ref tb, .int fu, .int ap, .int pp, .ref tr, .int tc, .ref fz, .int nm])), (sl, .inl (cI, 1653, .inl sf))] H := hP
  have hD : va_D A [(zs, .inl (cI, 8, .inl zf)), (ir, .inl (cI, 320, .inl irf)), (h, .inr (7, [.ref sl, .int na, .ref zs, .ref ln, .ref ir, .ref tk, .int su, .int le, .ref tb, .int fu, .int ap, .int pp, .ref tr, .int tc, .ref fz, .int nm])), (sl, .inl (cI, 1653, .inl sf))] := hD
  have c1_0 := hw_1
  rcases c1_0 with ⟨e_1, f_1⟩ | e_1
  · subst e_1
    have f_1 : 0 ≤ v.toInt ∧ v.toInt ≤ 2 := f_1
    refine lv_if_eq (tgt := 33) hx hb dX8_fits_5 (by decide) (fun c9 => absurd c9 (by decide)) (fun _ => ?_)
    refine lv_iload_n hx hb dX8_fits_8 rfl (lv_at hl 2 rfl) ?_
    refine lv_i2l (v := (a.toInt64)) hx hb dX8_fits_9 rfl ?_
    refine lv_lconst (v := 0) hx hb dX8_fits_10 (by decide) ?_
    refine lv_ldc2 (v := 7) hx hb hown (hts (.constantLong RX8 40 (7)) (List.mem_of_getElem? (i := 1) rfl)) dX8_fits_11 ?_
    have k_2 := (g_X8_in l D cI cB cQ H.size (a.toInt64) 0 7)
    refine wc_i (WC := []) (WR := [(zs, .inl (cI, 8, .inl zf)), (ir, .inl (cI, 320, .inl irf)), (h, .inr (7, [.ref sl, .int na, .ref zs, .ref ln, .ref ir, .ref tk, .int su, .int le, .ref tb, .int fu, .int ap, .int pp, .ref tr, .int tc, .ref fz, .int nm])), (sl, .inl (cI, 1653, .inl sf))]) (va_runS (As := [.long (a.toInt64), .long 0, .long 7]) (rest := []) ⟨hx, hb, hml, hown, hts⟩ k_2 (va_cwS 3 hts gX8_fits_X8_in rfl rfl rfl (by decide +kernel) ⟨Nat.le_of_ble_eq_true rfl, Nat.le_of_ble_eq_true rfl⟩) (wp_S hP hK hD hN [] (by decide) rfl) rfl rfl hl.1 rfl (lv_room (Nat.le_of_ble_eq_true rfl)) dX8_fits_14 ⟨Nat.le_of_ble_eq_true rfl, Nat.le_of_ble_eq_true rfl⟩) hP hD hS hA [] [0, 1, 2, 3] rfl rfl (by decide) (by decide) (fun r_2 u_2 H locs hw_2 hP hD hS => ?_)
    clear k_2
    have hP : va_P D kl [(zs, .inl (cI, 8, .inl zf)), (ir, .inl (cI, 320, .inl irf)), (h, .inr (7, [.ref sl, .int na, .ref zs, .ref ln, .ref ir, .ref tk, .int su, .int le, .ref tb, .int fu, .int ap, .int pp, .ref tr, .int tc, .ref fz, .int nm])), (sl, .inl (cI, 1653, .inl sf))] H := hP
    have hD : va_D A [(zs, .inl (cI, 8, .inl zf)), (ir, .inl (cI, 320, .inl irf)), (h, .inr (7, [.ref sl, .int na, .ref zs, .ref ln, .ref ir, .ref tk, .int su, .int le, .ref tb, .int fu, .int ap, .int pp, .ref tr, .int tc, .ref fz, .int nm])), (sl, .inl (cI, 1653, .inl sf))] := hD
    have c2_0 := hw_2
    rcases c2_0 with ⟨e_2, f_2⟩ | ⟨e_2, f_2⟩
    · subst e_2
      have f_2 : (0 : Int) ≤ a.toInt ∧ a.toInt ≤ (7 : Int) := by
        have h8 := f_2
        try simp only [zl_of] at h8
        exact h8
      refine lv_if_eq (tgt := 33) hx hb dX8_fits_17 (by decide) (fun c9 => absurd c9 (by decide)) (fun _ => ?_)
      refine lv_iload hx hb dX8_fits_20 (lv_at hl 4 rfl) ?_
      refine lv_i2l (v := (n.toInt64)) hx hb dX8_fits_22 rfl ?_
      refine lv_lconst (v := 1) hx hb dX8_fits_23 (by decide) ?_
      refine lv_ldc2 (v := 24) hx hb hown (hts (.constantLong RX8 142 (24)) (List.mem_of_getElem? (i := 2) rfl)) dX8_fits_24 ?_
      have k_3 := (g_X8_in l D cI cB cQ H.size (n.toInt64) 1 24)
      refine wc_i (WC := []) (WR := [(zs, .inl (cI, 8, .inl zf)), (ir, .inl (cI, 320, .inl irf)), (h, .inr (7, [.ref sl, .int na, .ref zs, .ref ln, .ref ir, .ref tk, .int su, .int le, .ref tb, .int fu, .int ap, .int pp, .ref tr, .int tc, .ref fz, .int nm])), (sl, .inl (cI, 1653, .inl sf))]) (va_runS (As := [.long (n.toInt64), .long 1, .long 24]) (rest := []) ⟨hx, hb, hml, hown, hts⟩ k_3 (va_cwS 3 hts gX8_fits_X8_in rfl rfl rfl (by decide +kernel) ⟨Nat.le_of_ble_eq_true rfl, Nat.le_of_ble_eq_true rfl⟩) (wp_S hP hK hD hN [] (by decide) rfl) rfl rfl hl.1 rfl (lv_room (Nat.le_of_ble_eq_true rfl)) dX8_fits_27 ⟨Nat.le_of_ble_eq_true rfl, Nat.le_of_ble_eq_true rfl⟩) hP hD hS hA [] [0, 1, 2, 3] rfl rfl (by decide) (by decide) (fun r_3 u_3 H locs hw_3 hP hD hS => ?_)
      clear k_3
      have hP : va_P D kl [(zs, .inl (cI, 8, .inl zf)), (ir, .inl (cI, 320, .inl irf)), (h, .inr (7, [.ref sl, .int na, .ref zs, .ref ln, .ref ir, .ref tk, .int su, .int le, .ref tb, .int fu, .int ap, .int pp, .ref tr, .int tc, .ref fz, .int nm])), (sl, .inl (cI, 1653, .inl sf))] H := hP
      have hD : va_D A [(zs, .inl (cI, 8, .inl zf)), (ir, .inl (cI, 320, .inl irf)), (h, .inr (7, [.ref sl, .int na, .ref zs, .ref ln, .ref ir, .ref tk, .int su, .int le, .ref tb, .int fu, .int ap, .int pp, .ref tr, .int tc, .ref fz, .int nm])), (sl, .inl (cI, 1653, .inl sf))] := hD
      have c3_0 := hw_3
      rcases c3_0 with ⟨e_3, f_3⟩ | ⟨e_3, f_3⟩
      · subst e_3
        have f_3 : (1 : Int) ≤ n.toInt ∧ n.toInt ≤ (24 : Int) := by
          have h8 := f_3
          try simp only [zl_of] at h8
          exact h8
        refine lv_if_ne (tgt := 36) hx hb dX8_fits_30 (by decide) (fun _ => ?_) (fun c9 => absurd c9 (by decide))
        refine lv_aload_n hx hb dX8_fits_36 rfl (lv_at hl 0 rfl) ?_
        refine lv_iload_n hx hb dX8_fits_37 rfl (lv_at hl 2 rfl) ?_
        refine lv_iload_n hx hb dX8_fits_38 rfl (lv_at hl 3 rfl) ?_
        refine lv_iload hx hb dX8_fits_39 (lv_at hl 4 rfl) ?_
        have k_4 := (g_X8_why l D cI cB cQ H.size h sl zs ln ir tk tb tr fz na su le fu ap pp tc nm a i n zf hz (by omega) (by omega))
        refine wc_i (WC := [(h, .inr (7, [.ref sl, .int na, .ref zs, .ref ln, .ref ir, .ref tk, .int su, .int le, .ref tb, .int fu, .int ap, .int pp, .ref tr, .int tc, .ref fz, .int nm])), (zs, .inl (cI, 8, .inl zf))]) (WR := [(ir, .inl (cI, 320, .inl irf)), (sl, .inl (cI, 1653, .inl sf))]) (va_runV (As := [.int a, .int i, .int n]) (rest := []) ⟨hx, hb, hml, hown, hts⟩ k_4 (cwV 3 hts gX8_fits_X8_why rfl rfl rfl (by decide +kernel) ⟨Nat.le_of_ble_eq_true rfl, Nat.le_of_ble_eq_true rfl⟩) (wp_V hP hK hD hN [2, 0] (by decide) rfl (ci := 7) rfl rfl) rfl rfl hl.1 rfl (lv_room (Nat.le_of_ble_eq_true rfl)) dX8_fits_41 ⟨Nat.le_of_ble_eq_true rfl, Nat.le_of_ble_eq_true rfl⟩) hP hD hS hA [2, 0] [1, 3] rfl rfl (by decide) (by decide) (fun r_4 u_4 H locs hw_4 hP hD hS => ?_)
        clear k_4
        have hP : va_P D kl [(ir, .inl (cI, 320, .inl irf)), (sl, .inl (cI, 1653, .inl sf)), (h, .inr (7, [.ref sl, .int na, .ref zs, .ref ln, .ref ir, .ref tk, .int su, .int le, .ref tb, .int fu, .int ap, .int pp, .ref tr, .int tc, .ref fz, .int nm])), (zs, .inl (cI, 8, .inl zf))] H := hP
        have hD : va_D A [(ir, .inl (cI, 320, .inl irf)), (sl, .inl (cI, 1653, .inl sf)), (h, .inr (7, [.ref sl, .int na, .ref zs, .ref ln, .ref ir, .ref tk, .int su, .int le, .ref tb, .int fu, .int ap, .int pp, .ref tr, .int tc, .ref fz, .int nm])), (zs, .inl (cI, 8, .inl zf))] := hD
        have c4_0 := hw_4
        rcases c4_0 with ⟨e_4, f_4⟩ | e_4 | e_4
        · subst e_4
          have f_4 : 0 ≤ i.toInt ∧ i.toInt ≤ 40 ∧ i.toInt + n.toInt ≤ 40 := f_4
          refine lv_istore (lv' := [(5, .int 0), (0, .ref h), (1, .int v), (2, .int a), (3, .int i), (4, .int n)]) hx hb dX8_fits_44 hl (by decide) rfl (fun ls hl => ?_)
          refine lv_iload hx hb dX8_fits_46 (lv_at hl 0 rfl) ?_
          refine lv_if_le (tgt := 58) hx hb dX8_fits_48 (by decide) (fun _ => ?_) (fun c9 => absurd (by decide) c9)
          refine lv_iconst (v := 0) hx hb dX8_fits_58 (by decide) ?_
          refine lv_istore (lv' := [(6, .int 0), (5, .int 0), (0, .ref h), (1, .int v), (2, .int a), (3, .int i), (4, .int n)]) hx hb dX8_fits_59 hl (by decide) rfl (fun ls hl => ?_)
          refine lv_iconst (v := 1) hx hb dX8_fits_61 (by decide) ?_
          refine lv_istore (lv' := [(7, .int 1), (6, .int 0), (5, .int 0), (0, .ref h), (1, .int v), (2, .int a), (3, .int i), (4, .int n)]) hx hb dX8_fits_62 hl (by decide) rfl (fun ls hl => ?_)
          have hL64 : ∀ (nf : Nat) (t7_c64 : Int32) (t6_c64 : Int32) (g0_c64 : Nat → Int32) (H : Heap) (locs : List Loc) (ls : Array Slot), (1 ≤ t7_c64.toInt ∧ t7_c64.toInt ≤ 6) → (SI g0_c64 v0) → (6 - t7_c64.toInt).toNat < nf → va_P D kl [(ir, .inl (cI, 320, .inl irf)), (sl, .inl (cI, 1653, .inl g0_c64)), (h, .inr (7, [.ref sl, .int na, .ref zs, .ref ln, .ref ir, .ref tk, .int su, .int le, .ref tb, .int fu, .int ap, .int pp, .ref tr, .int tc, .ref fz, .int nm])), (zs, .inl (cI, 8, .inl zf))] H → va_D A [(ir, .inl (cI, 320, .inl irf)), (sl, .inl (cI, 1653, .inl g0_c64)), (h, .inr (7, [.ref sl, .int na, .ref zs, .ref ln, .ref ir, .ref tk, .int su, .int le, .ref tb, .int fu, .int ap, .int pp, .ref tr, .int tc, .ref fz, .int nm])), (zs, .inl (cI, 8, .inl zf))] → va_S A s.heap H locs → lv_has ls 10 [(7, .int t7_c64), (6, .int t6_c64), (5, .int 0), (0, .ref h), (1, .int v), (2, .int a), (3, .int i), (4, .int n)] → W p l e ({ frames := 5, cells := 0, slots := 0, locals := 122 }) s m ([.ref h, .int v, .int a, .int i, .int n] : List Value).toArray below meth c H locs 0 0 (MQ below (va_Qi (fun (r : Int32) (u : (Nat → Int32) × Int32) => (SI u.1 v0)) (fun u t => wb D A ((fun u => [(h, .inr (7, [.ref sl, .int na, .ref zs, .ref ln, .ref ir, .ref tk, .int u.2, .int le, .ref tb, .int fu, .int ap, .int pp, .ref tr, .int tc, .ref fz, .int nm])), (sl, .inl (cI, 1653, .inl u.1)), (zs, .inl (cI, 8, .inl zf)), (ir, .inl (cI, 320, .inl irf))]) u) t) A) ([.ref h, .int v, .int a, .int i, .int n] : List Value).toArray s 0 0 A) (F0 m 64 ls []) := by
            intro nf
            induction nf with
            | zero =>
              intro t7_c64 t6_c64 g0_c64 H locs ls i_t7_c64 ha_g0_c64 hm
              exact absurd hm (Nat.not_lt_zero _)
            | succ nf ih64 =>
              intro t7_c64 t6_c64 g0_c64 H locs ls i_t7_c64 ha_g0_c64 hm64 hP hD hS hl
              refine lv_iload hx hb dX8_fits_64 (lv_at hl 0 rfl) ?_
              refine lv_bipush (v := 6) hx hb dX8_fits_66 (by decide) ?_
              refine lv_icmp_ge (tgt := 179) hx hb dX8_fits_68 (by decide) (fun c_5 => ?_) (fun c_5 => ?_)
              · have f_5 : 6 ≤ t7_c64.toInt := zi_le c_5
                refine lv_aload_n hx hb dX8_fits_179 rfl (lv_at hl 3 rfl) ?_
                refine lv_iload hx hb dX8_fits_180 (lv_at hl 1 rfl) ?_
                have k_6 := (g_X8_told l D cI cB cQ H.size h sl zs ln ir tk tb tr fz na su le fu ap pp tc nm t6_c64)
                refine wc_i (WC := [(h, .inr (7, [.ref sl, .int na, .ref zs, .ref ln, .ref ir, .ref tk, .int su, .int le, .ref tb, .int fu, .int ap, .int pp, .ref tr, .int tc, .ref fz, .int nm]))]) (WR := [(ir, .inl (cI, 320, .inl irf)), (sl, .inl (cI, 1653, .inl g0_c64)), (zs, .inl (cI, 8, .inl zf))]) (va_runV (As := [.int t6_c64]) (rest := []) ⟨hx, hb, hml, hown, hts⟩ k_6 (cwV 1 hts gX8_fits_X8_told rfl rfl rfl (by decide +kernel) ⟨Nat.le_of_ble_eq_true rfl, Nat.le_of_ble_eq_true rfl⟩) (wp_V hP hK hD hN [2] (by decide) rfl (ci := 7) rfl rfl) rfl rfl hl.1 rfl (lv_room (Nat.le_of_ble_eq_true rfl)) dX8_fits_182 ⟨Nat.le_of_ble_eq_true rfl, Nat.le_of_ble_eq_true rfl⟩) hP hD hS hA [2] [0, 1, 3] rfl rfl (by decide) (by decide) (fun r_6 u_6 H locs hw_6 hP hD hS => ?_)
                clear k_6
                have hP : va_P D kl [(ir, .inl (cI, 320, .inl irf)), (sl, .inl (cI, 1653, .inl g0_c64)), (zs, .inl (cI, 8, .inl zf)), (h, .inr (7, [.ref sl, .int na, .ref zs, .ref ln, .ref ir, .ref tk, .int u_6, .int le, .ref tb, .int fu, .int ap, .int pp, .ref tr, .int tc, .ref fz, .int nm]))] H := hP
                have hD : va_D A [(ir, .inl (cI, 320, .inl irf)), (sl, .inl (cI, 1653, .inl g0_c64)), (zs, .inl (cI, 8, .inl zf)), (h, .inr (7, [.ref sl, .int na, .ref zs, .ref ln, .ref ir, .ref tk, .int u_6, .int le, .ref tb, .int fu, .int ap, .int pp, .ref tr, .int tc, .ref fz, .int nm]))] := hD
                clear hw_6
                exact wr_i (v := r_6) hx hb hr hlocks hS (g0_c64, u_6) (by exact ha_g0_c64) (hP.sub [3, 1, 2, 0] rfl) (hD.sub [3, 1, 2, 0] (by decide) rfl) dX8_fits_185
              · have f_5 : ¬ 6 ≤ t7_c64.toInt := zi_nle c_5
                refine lv_aload_n hx hb dX8_fits_71 rfl (lv_at hl 3 rfl) ?_
                refine lv_iconst (v := 0) hx hb dX8_fits_72 (by decide) ?_
                refine lv_bipush (v := 27) hx hb dX8_fits_73 (by decide) ?_
                have k_7 := (g_X8_copies l D cI cB cQ H.size h sl zs ln ir tk tb tr fz na su le fu ap pp tc nm 0 27 g0_c64 v0 ha_g0_c64 ⟨by decide, by decide⟩ ⟨by decide, by decide⟩)
                refine wc_v (WC := [(h, .inr (7, [.ref sl, .int na, .ref zs, .ref ln, .ref ir, .ref tk, .int su, .int le, .ref tb, .int fu, .int ap, .int pp, .ref tr, .int tc, .ref fz, .int nm])), (sl, .inl (cI, 1653, .inl g0_c64))]) (WR := [(ir, .inl (cI, 320, .inl irf)), (zs, .inl (cI, 8, .inl zf))]) (va_runV (As := [.int 0, .int 27]) (rest := []) ⟨hx, hb, hml, hown, hts⟩ k_7 (cwV 2 hts gX8_fits_X8_copies rfl rfl rfl (by decide +kernel) ⟨Nat.le_of_ble_eq_true rfl, Nat.le_of_ble_eq_true rfl⟩) (wp_V hP hK hD hN [2, 1] (by decide) rfl (ci := 7) rfl rfl) rfl rfl hl.1 rfl (lv_room (Nat.le_of_ble_eq_true rfl)) dX8_fits_75 ⟨Nat.le_of_ble_eq_true rfl, Nat.le_of_ble_eq_true rfl⟩) hP hD hS hA [2, 1] [0, 3] rfl rfl (by decide) (by decide) (fun u_7 H locs hw_7 hP hD hS => ?_)
                clear k_7
                have hP : va_P D kl [(ir, .inl (cI, 320, .inl irf)), (zs, .inl (cI, 8, .inl zf)), (h, .inr (7, [.ref sl, .int na, .ref zs, .ref ln, .ref ir, .ref tk, .int su, .int le, .ref tb, .int fu, .int ap, .int pp, .ref tr, .int tc, .ref fz, .int nm])), (sl, .inl (cI, 1653, .inl u_7))] H := hP
                have hD : va_D A [(ir, .inl (cI, 320, .inl irf)), (zs, .inl (cI, 8, .inl zf)), (h, .inr (7, [.ref sl, .int na, .ref zs, .ref ln, .ref ir, .ref tk, .int su, .int le, .ref tb, .int fu, .int ap, .int pp, .ref tr, .int tc, .ref fz, .int nm])), (sl, .inl (cI, 1653, .inl u_7))] := hD
                have c7_0 := hw_7
                have c7_0 : SI u_7 v0 := c7_0
                refine lv_aload_n hx hb dX8_fits_78 rfl (lv_at hl 3 rfl) ?_
                refine va_get (D := D) (ci := 7) (v := .ref sl) (C := RX8) (T := TX8) (N := 16) hx hb hts (fun _ h => List.mem_cons_of_mem _ (List.mem_append_right _ h)) hown hK hP 2 rfl rfl 0 (by decide) (hts (.fieldLink RX8 7 "WinterWalkModel" "slot" "[I") (List.mem_of_getElem? (i := 4) rfl)) (fun _ h9 => h9) rfl dX8_fits_79 ?_
                refine lv_sipush (v := 1559) hx hb dX8_fits_82 (by decide) ?_
                refine lv_iload_n hx hb dX8_fits_85 rfl (lv_at hl 4 rfl) ?_
                refine lv_iadd hx hb dX8_fits_86 ?_
                refine lv_topi (fun x_8 ex_8 => ?_)
                have e_8 : x_8.toInt = 1559 + v.toInt := by rw [ex_8]; exact zi_add (by decide) (rfl) (by omega) (by omega)
                clear ex_8
                refine lv_iload hx hb dX8_fits_87 (lv_at hl 0 rfl) ?_
                refine va_iast hx hb hK hP hD hS 3 0 rfl rfl (zi_in (by omega) (by omega)) dX8_fits_89 (fun H locs hP hD hS => ?_)
                have hP : va_P D kl [(ir, .inl (cI, 320, .inl irf)), (zs, .inl (cI, 8, .inl zf)), (h, .inr (7, [.ref sl, .int na, .ref zs, .ref ln, .ref ir, .ref tk, .int su, .int le, .ref tb, .int fu, .int ap, .int pp, .ref tr, .int tc, .ref fz, .int nm])), (sl, .inl (cI, 1653, .inl (upd u_7 (x_8 : Int32).toNatClampNeg t7_c64)))] H := hP
                have hD : va_D A [(ir, .inl (cI, 320, .inl irf)), (zs, .inl (cI, 8, .inl zf)), (h, .inr (7, [.ref sl, .int na, .ref zs, .ref ln, .ref ir, .ref tk, .int su, .int le, .ref tb, .int fu, .int ap, .int pp, .ref tr, .int tc, .ref fz, .int nm])), (sl, .inl (cI, 1653, .inl (upd u_7 (x_8 : Int32).toNatClampNeg t7_c64)))] := hD
                have ha_9 : SI (upd u_7 (x_8 : Int32).toNatClampNeg t7_c64) v0 := si_up c7_0 (by omega) (fun s0 a0 b0 e0 => by omega) (fun s0 a0 b0 e0 => by omega) (fun s0 k0 a0 b0 c0 d0 e0 => by omega) (by omega)
                refine lv_iconst (v := 1) hx hb dX8_fits_90 (by decide) ?_
                refine lv_istore (lv' := [(8, .int 1), (7, .int t7_c64), (6, .int t6_c64), (5, .int 0), (0, .ref h), (1, .int v), (2, .int a), (3, .int i), (4, .int n)]) hx hb dX8_fits_91 hl (by decide) rfl (fun ls hl => ?_)
                refine lv_iconst (v := 0) hx hb dX8_fits_93 (by decide) ?_
                refine lv_istore (lv' := [(9, .int 0), (8, .int 1), (7, .int t7_c64), (6, .int t6_c64), (5, .int 0), (0, .ref h), (1, .int v), (2, .int a), (3, .int i), (4, .int n)]) hx hb dX8_fits_94 hl (by decide) rfl (fun ls hl => ?_)
                have hL96 : ∀ (nf : Nat) (t9_c96 : Int32) (t8_c96 : Int32) (g0_c96 : Nat → Int32) (H : Heap) (locs : List Loc) (ls : Array Slot), (0 ≤ t9_c96.toInt ∧ t9_c96.toInt ≤ 24) → (SI g0_c96 v0) → (n.toInt - t9_c96.toInt).toNat < nf → va_P D kl [(ir, .inl (cI, 320, .inl irf)), (zs, .inl (cI, 8, .inl zf)), (h, .inr (7, [.ref sl, .int na, .ref zs, .ref ln, .ref ir, .ref tk, .int su, .int le, .ref tb, .int fu, .int ap, .int pp, .ref tr, .int tc, .ref fz, .int nm])), (sl, .inl (cI, 1653, .inl g0_c96))] H → va_D A [(ir, .inl (cI, 320, .inl irf)), (zs, .inl (cI, 8, .inl zf)), (h, .inr (7, [.ref sl, .int na, .ref zs, .ref ln, .ref ir, .ref tk, .int su, .int le, .ref tb, .int fu, .int ap, .int pp, .ref tr, .int tc, .ref fz, .int nm])), (sl, .inl (cI, 1653, .inl g0_c96))] → va_S A s.heap H locs → lv_has ls 10 [(9, .int t9_c96), (8, .int t8_c96), (7, .int t7_c64), (6, .int t6_c64), (5, .int 0), (0, .ref h), (1, .int v), (2, .int a), (3, .int i), (4, .int n)] → W p l e ({ frames := 5, cells := 0, slots := 0, locals := 122 }) s m ([.ref h, .int v, .int a, .int i, .int n] : List Value).toArray below meth c H locs 0 0 (MQ below (va_Qi (fun (r : Int32) (u : (Nat → Int32) × Int32) => (SI u.1 v0)) (fun u t => wb D A ((fun u => [(h, .inr (7, [.ref sl, .int na, .ref zs, .ref ln, .ref ir, .ref tk, .int u.2, .int le, .ref tb, .int fu, .int ap, .int pp, .ref tr, .int tc, .ref fz, .int nm])), (sl, .inl (cI, 1653, .inl u.1)), (zs, .inl (cI, 8, .inl zf)), (ir, .inl (cI, 320, .inl irf))]) u) t) A) ([.ref h, .int v, .int a, .int i, .int n] : List Value).toArray s 0 0 A) (F0 m 96 ls []) := by
                  intro nf
                  induction nf with
                  | zero =>
                    intro t9_c96 t8_c96 g0_c96 H locs ls i_t9_c96 ha_g0_c96 hm
                    exact absurd hm (Nat.not_lt_zero _)
                  | succ nf ih96 =>
                    intro t9_c96 t8_c96 g0_c96 H locs ls i_t9_c96 ha_g0_c96 hm96 hP hD hS hl
                    refine lv_iload hx hb dX8_fits_96 (lv_at hl 0 rfl) ?_
                    refine lv_iload hx hb dX8_fits_98 (lv_at hl 9 rfl) ?_
                    refine lv_icmp_ge (tgt := 155) hx hb dX8_fits_100 (by decide) (fun c_10 => ?_) (fun c_10 => ?_)
                    · have f_10 : n.toInt ≤ t9_c96.toInt := zi_le c_10
                      refine lv_iload hx hb dX8_fits_155 (lv_at hl 3 rfl) ?_
                      refine lv_iload hx hb dX8_fits_157 (lv_at hl 1 rfl) ?_
                      refine lv_if_eq (tgt := 169) hx hb dX8_fits_159 (by decide) (fun c_11 => ?_) (fun c_11 => ?_)
                      · have f_11 : t8_c96.toInt = 0 := zi_eq c_11
                        refine lv_iconst (v := 0) hx hb dX8_fits_169 (by decide) ?_
                        refine lv_ior hx hb dX8_fits_170 ?_
                        refine lv_topi (fun x_12 ex_12 => ?_)
                        clear ex_12
                        refine lv_istore (lv' := [(6, .int x_12), (9, .int t9_c96), (8, .int t8_c96), (7, .int t7_c64), (5, .int 0), (0, .ref h), (1, .int v), (2, .int a), (3, .int i), (4, .int n)]) hx hb dX8_fits_171 hl (by decide) rfl (fun ls hl => ?_)
                        obtain ⟨x_13, ex_13⟩ : ∃ y : Int32, y = t7_c64 + Int32.ofInt 1 := ⟨_, rfl⟩
                        refine lv_iinc (v := x_13) (lv' := [(7, .int x_13), (6, .int x_12), (9, .int t9_c96), (8, .int t8_c96), (5, .int 0), (0, .ref h), (1, .int v), (2, .int a), (3, .int i), (4, .int n)]) hx hb dX8_fits_173 hl (k := 3) rfl ex_13.symm (by decide) rfl (fun ls hl => ?_)
                        have ex_13 : x_13 = t7_c64 + 1 := ex_13
                        have e_13 : x_13.toInt = t7_c64.toInt + 1 := by rw [ex_13]; exact zi_add (rfl) (by decide) (by omega) (by omega)
                        clear ex_13
                        refine lv_goto (tgt := 64) hx hb dX8_fits_176 (by decide) ?_
                        exact ih64 x_13 x_12 g0_c96 _ _ _ (show 1 ≤ x_13.toInt ∧ x_13.toInt ≤ 6 from by omega) ha_g0_c96 (by omega) (hP.sub [0, 3, 2, 1] rfl) (hD.sub [0, 3, 2, 1] (by decide) rfl) hS (lv_sub hl [0, 1, 4, 5, 6, 7, 8, 9] rfl)
                      · have f_11 : ¬ t8_c96.toInt = 0 := zi_ne c_11
                        refine lv_iconst (v := 1) hx hb dX8_fits_162 (by decide) ?_
                        refine lv_iload hx hb dX8_fits_163 (lv_at hl 2 rfl) ?_
                        refine lv_ishl hx hb dX8_fits_165 ?_
                        refine lv_topi (fun x_14 ex_14 => ?_)
                        have e_14 : 1 ≤ x_14.toInt ∧ x_14.toInt ≤ 256 := by rw [ex_14]; exact zi_sh (by omega)
                        clear ex_14
                        refine lv_goto (tgt := 170) hx hb dX8_fits_166 (by decide) ?_
                        refine lv_ior hx hb dX8_fits_170 ?_
                        refine lv_topi (fun x_15 ex_15 => ?_)
                        clear ex_15
                        refine lv_istore (lv' := [(6, .int x_15), (9, .int t9_c96), (8, .int t8_c96), (7, .int t7_c64), (5, .int 0), (0, .ref h), (1, .int v), (2, .int a), (3, .int i), (4, .int n)]) hx hb dX8_fits_171 hl (by decide) rfl (fun ls hl => ?_)
                        obtain ⟨x_16, ex_16⟩ : ∃ y : Int32, y = t7_c64 + Int32.ofInt 1 := ⟨_, rfl⟩
                        refine lv_iinc (v := x_16) (lv' := [(7, .int x_16), (6, .int x_15), (9, .int t9_c96), (8, .int t8_c96), (5, .int 0), (0, .ref h), (1, .int v), (2, .int a), (3, .int i), (4, .int n)]) hx hb dX8_fits_173 hl (k := 3) rfl ex_16.symm (by decide) rfl (fun ls hl => ?_)
                        have ex_16 : x_16 = t7_c64 + 1 := ex_16
                        have e_16 : x_16.toInt = t7_c64.toInt + 1 := by rw [ex_16]; exact zi_add (rfl) (by decide) (by omega) (by omega)
                        clear ex_16
                        refine lv_goto (tgt := 64) hx hb dX8_fits_176 (by decide) ?_
                        exact ih64 x_16 x_15 g0_c96 _ _ _ (show 1 ≤ x_16.toInt ∧ x_16.toInt ≤ 6 from by omega) ha_g0_c96 (by omega) (hP.sub [0, 3, 2, 1] rfl) (hD.sub [0, 3, 2, 1] (by decide) rfl) hS (lv_sub hl [0, 1, 4, 5, 6, 7, 8, 9] rfl)
                    · have f_10 : ¬ n.toInt ≤ t9_c96.toInt := zi_nle c_10
                      refine lv_aload_n hx hb dX8_fits_103 rfl (lv_at hl 5 rfl) ?_
                      refine lv_bipush (v := 27) hx hb dX8_fits_104 (by decide) ?_
                      refine lv_iconst (v := (-1)) hx hb dX8_fits_106 (by decide) ?_
                      have k_17 := (g_X8_day l D cI cB cQ H.size h sl zs ln ir tk tb tr fz na su le fu ap pp tc nm 27 (-1) g0_c96 v0 ha_g0_c96 ⟨by decide, by decide⟩)
                      refine wc_v (WC := [(h, .inr (7, [.ref sl, .int na, .ref zs, .ref ln, .ref ir, .ref tk, .int su, .int le, .ref tb, .int fu, .int ap, .int pp, .ref tr, .int tc, .ref fz, .int nm])), (sl, .inl (cI, 1653, .inl g0_c96))]) (WR := [(ir, .inl (cI, 320, .inl irf)), (zs, .inl (cI, 8, .inl zf))]) (va_runV (As := [.int 27, .int (-1)]) (rest := []) ⟨hx, hb, hml, hown, hts⟩ k_17 (cwV 2 hts gX8_fits_X8_day rfl rfl rfl (by decide +kernel) ⟨Nat.le_of_ble_eq_true rfl, Nat.le_of_ble_eq_true rfl⟩) (wp_V hP hK hD hN [2, 3] (by decide) rfl (ci := 7) rfl rfl) rfl rfl hl.1 rfl (lv_room (Nat.le_of_ble_eq_true rfl)) dX8_fits_107 ⟨Nat.le_of_ble_eq_true rfl, Nat.le_of_ble_eq_true rfl⟩) hP hD hS hA [2, 3] [0, 1] rfl rfl (by decide) (by decide) (fun u_17 H locs hw_17 hP hD hS => ?_)
                      clear k_17
                      have hP : va_P D kl [(ir, .inl (cI, 320, .inl irf)), (zs, .inl (cI, 8, .inl zf)), (h, .inr (7, [.ref sl, .int na, .ref zs, .ref ln, .ref ir, .ref tk, .int su, .int le, .ref tb, .int fu, .int ap, .int pp, .ref tr, .int tc, .ref fz, .int nm])), (sl, .inl (cI, 1653, .inl u_17))] H := hP
                      have hD : va_D A [(ir, .inl (cI, 320, .inl irf)), (zs, .inl (cI, 8, .inl zf)), (h, .inr (7, [.ref sl, .int na, .ref zs, .ref ln, .ref ir, .ref tk, .int su, .int le, .ref tb, .int fu, .int ap, .int pp, .ref tr, .int tc, .ref fz, .int nm])), (sl, .inl (cI, 1653, .inl u_17))] := hD
                      have c17_0 := hw_17
                      have c17_0 : SI u_17 v0 := c17_0
                      refine lv_iload hx hb dX8_fits_110 (lv_at hl 1 rfl) ?_
                      refine lv_if_eq (tgt := 146) hx hb dX8_fits_112 (by decide) (fun c_18 => ?_) (fun c_18 => ?_)
                      · have f_18 : t8_c96.toInt = 0 := zi_eq c_18
                        refine lv_iconst (v := 0) hx hb dX8_fits_146 (by decide) ?_
                        refine lv_istore (lv' := [(8, .int 0), (9, .int t9_c96), (7, .int t7_c64), (6, .int t6_c64), (5, .int 0), (0, .ref h), (1, .int v), (2, .int a), (3, .int i), (4, .int n)]) hx hb dX8_fits_147 hl (by decide) rfl (fun ls hl => ?_)
                        obtain ⟨x_19, ex_19⟩ : ∃ y : Int32, y = t9_c96 + Int32.ofInt 1 := ⟨_, rfl⟩
                        refine lv_iinc (v := x_19) (lv' := [(9, .int x_19), (8, .int 0), (7, .int t7_c64), (6, .int t6_c64), (5, .int 0), (0, .ref h), (1, .int v), (2, .int a), (3, .int i), (4, .int n)]) hx hb dX8_fits_149 hl (k := 1) rfl ex_19.symm (by decide) rfl (fun ls hl => ?_)
                        have ex_19 : x_19 = t9_c96 + 1 := ex_19
                        have e_19 : x_19.toInt = t9_c96.toInt + 1 := by rw [ex_19]; exact zi_add (rfl) (by decide) (by omega) (by omega)
                        clear ex_19
                        refine lv_goto (tgt := 96) hx hb dX8_fits_152 (by decide) ?_
                        exact ih96 x_19 0 u_17 _ _ _ (show 0 ≤ x_19.toInt ∧ x_19.toInt ≤ 24 from by omega) c17_0 (by omega) (hP.sub [0, 1, 2, 3] rfl) (hD.sub [0, 1, 2, 3] (by decide) rfl) hS (lv_sub hl [0, 1, 2, 3, 4, 5, 6, 7, 8, 9] rfl)
                      · have f_18 : ¬ t8_c96.toInt = 0 := zi_ne c_18
                        refine lv_aload_n hx hb dX8_fits_115 rfl (lv_at hl 5 rfl) ?_
                        refine va_get (D := D) (ci := 7) (v := .ref sl) (C := RX8) (T := TX8) (N := 16) hx hb hts (fun _ h => List.mem_cons_of_mem _ (List.mem_append_right _ h)) hown hK hP 2 rfl rfl 0 (by decide) (hts (.fieldLink RX8 7 "WinterWalkModel" "slot" "[I") (List.mem_of_getElem? (i := 4) rfl)) (fun _ h9 => h9) rfl dX8_fits_116 ?_
                        refine lv_sipush (v := 1587) hx hb dX8_fits_119 (by decide) ?_
                        refine lv_iload_n hx hb dX8_fits_122 rfl (lv_at hl 6 rfl) ?_
                        refine lv_iadd hx hb dX8_fits_123 ?_
                        refine lv_topi (fun x_20 ex_20 => ?_)
                        have e_20 : x_20.toInt = 1587 + v.toInt := by rw [ex_20]; exact zi_add (by decide) (rfl) (by omega) (by omega)
                        clear ex_20
                        refine va_iald hx hb hK hP 3 0 rfl rfl (zi_in (by omega) (by omega)) dX8_fits_124 ?_
                        refine lv_topi (fun x_21 ex_21 => ?_)
                        have f_21 : 0 ≤ x_21.toInt ∧ x_21.toInt ≤ 7 := by rw [ex_21]; exact si_a c17_0 (s := 27) (k := v.toInt) (by omega) (by omega) (by omega)
                        clear ex_21
                        refine lv_aload_n hx hb dX8_fits_125 rfl (lv_at hl 5 rfl) ?_
                        refine va_get (D := D) (ci := 7) (v := .ref ir) (C := RX8) (T := TX8) (N := 16) hx hb hts (fun _ h => List.mem_cons_of_mem _ (List.mem_append_right _ h)) hown hK hP 2 rfl rfl 4 (by decide) (hts (.fieldLink RX8 19 "WinterWalkModel" "items" "[I") (List.mem_of_getElem? (i := 5) rfl)) (fun _ h9 => h9) rfl dX8_fits_126 ?_
                        refine lv_bipush (v := 40) hx hb dX8_fits_129 (by decide) ?_
                        refine lv_iload_n hx hb dX8_fits_131 rfl (lv_at hl 7 rfl) ?_
                        refine lv_imul hx hb dX8_fits_132 ?_
                        refine lv_topi (fun x_22 ex_22 => ?_)
                        have e_22 : x_22.toInt = 40 * a.toInt := by rw [ex_22]; exact zi_mul (by decide) (rfl) (by omega) (by omega)
                        clear ex_22
                        refine lv_iload_n hx hb dX8_fits_133 rfl (lv_at hl 8 rfl) ?_
                        refine lv_iadd hx hb dX8_fits_134 ?_
                        refine lv_topi (fun x_23 ex_23 => ?_)
                        have e_23 : x_23.toInt = x_22.toInt + i.toInt := by rw [ex_23]; exact zi_add (rfl) (rfl) (by omega) (by omega)
                        clear ex_23
                        refine lv_iload hx hb dX8_fits_135 (lv_at hl 0 rfl) ?_
                        refine lv_iadd hx hb dX8_fits_137 ?_
                        refine lv_topi (fun x_24 ex_24 => ?_)
                        have e_24 : x_24.toInt = x_23.toInt + t9_c96.toInt := by rw [ex_24]; exact zi_add (rfl) (rfl) (by omega) (by omega)
                        clear ex_24
                        refine va_iald hx hb hK hP 0 0 rfl rfl (zi_in (by omega) (by omega)) dX8_fits_138 ?_
                        refine lv_topi (fun x_25 ex_25 => ?_)
                        clear ex_25
                        refine lv_icmp_ne (tgt := 146) hx hb dX8_fits_139 (by decide) (fun c_26 => ?_) (fun c_26 => ?_)
                        · have f_26 : ¬ x_21.toInt = x_25.toInt := zi_ne c_26
                          refine lv_iconst (v := 0) hx hb dX8_fits_146 (by decide) ?_
                          refine lv_istore (lv' := [(8, .int 0), (9, .int t9_c96), (7, .int t7_c64), (6, .int t6_c64), (5, .int 0), (0, .ref h), (1, .int v), (2, .int a), (3, .int i), (4, .int n)]) hx hb dX8_fits_147 hl (by decide) rfl (fun ls hl => ?_)
                          obtain ⟨x_27, ex_27⟩ : ∃ y : Int32, y = t9_c96 + Int32.ofInt 1 := ⟨_, rfl⟩
                          refine lv_iinc (v := x_27) (lv' := [(9, .int x_27), (8, .int 0), (7, .int t7_c64), (6, .int t6_c64), (5, .int 0), (0, .ref h), (1, .int v), (2, .int a), (3, .int i), (4, .int n)]) hx hb dX8_fits_149 hl (k := 1) rfl ex_27.symm (by decide) rfl (fun ls hl => ?_)
                          have ex_27 : x_27 = t9_c96 + 1 := ex_27
                          have e_27 : x_27.toInt = t9_c96.toInt + 1 := by rw [ex_27]; exact zi_add (rfl) (by decide) (by omega) (by omega)
                          clear ex_27
                          refine lv_goto (tgt := 96) hx hb dX8_fits_152 (by decide) ?_
                          exact ih96 x_27 0 u_17 _ _ _ (show 0 ≤ x_27.toInt ∧ x_27.toInt ≤ 24 from by omega) c17_0 (by omega) (hP.sub [0, 1, 2, 3] rfl) (hD.sub [0, 1, 2, 3] (by decide) rfl) hS (lv_sub hl [0, 1, 2, 3, 4, 5, 6, 7, 8, 9] rfl)
                        · have f_26 : x_21.toInt = x_25.toInt := zi_eq c_26
                          refine lv_iconst (v := 1) hx hb dX8_fits_142 (by decide) ?_
                          refine lv_goto (tgt := 147) hx hb dX8_fits_143 (by decide) ?_
                          refine lv_istore (lv' := [(8, .int 1), (9, .int t9_c96), (7, .int t7_c64), (6, .int t6_c64), (5, .int 0), (0, .ref h), (1, .int v), (2, .int a), (3, .int i), (4, .int n)]) hx hb dX8_fits_147 hl (by decide) rfl (fun ls hl => ?_)
                          obtain ⟨x_28, ex_28⟩ : ∃ y : Int32, y = t9_c96 + Int32.ofInt 1 := ⟨_, rfl⟩
                          refine lv_iinc (v := x_28) (lv' := [(9, .int x_28), (8, .int 1), (7, .int t7_c64), (6, .int t6_c64), (5, .int 0), (0, .ref h), (1, .int v), (2, .int a), (3, .int i), (4, .int n)]) hx hb dX8_fits_149 hl (k := 1) rfl ex_28.symm (by decide) rfl (fun ls hl => ?_)
                          have ex_28 : x_28 = t9_c96 + 1 := ex_28
                          have e_28 : x_28.toInt = t9_c96.toInt + 1 := by rw [ex_28]; exact zi_add (rfl) (by decide) (by omega) (by omega)
                          clear ex_28
                          refine lv_goto (tgt := 96) hx hb dX8_fits_152 (by decide) ?_
                          exact ih96 x_28 1 u_17 _ _ _ (show 0 ≤ x_28.toInt ∧ x_28.toInt ≤ 24 from by omega) c17_0 (by omega) (hP.sub [0, 1, 2, 3] rfl) (hD.sub [0, 1, 2, 3] (by decide) rfl) hS (lv_sub hl [0, 1, 2, 3, 4, 5, 6, 7, 8, 9] rfl)
                exact hL96 (((n.toInt - (0 : Int32).toInt).toNat) + 1) 0 1 (upd u_7 (x_8 : Int32).toNatClampNeg t7_c64) _ _ _ (show 0 ≤ 0 ∧ 0 ≤ 24 from by omega) ha_9 (Nat.lt_succ_self _) (hP.sub [0, 1, 2, 3] rfl) (hD.sub [0, 1, 2, 3] (by decide) rfl) hS (lv_sub hl [0, 1, 2, 3, 4, 5, 6, 7, 8, 9] rfl)
          exact hL64 (((6 - (1 : Int32).toInt).toNat) + 1) 1 0 sf _ _ _ (show 1 ≤ 1 ∧ 1 ≤ 6 from by omega) hsi (Nat.lt_succ_self _) (hP.sub [0, 1, 2, 3] rfl) (hD.sub [0, 1, 2, 3] (by decide) rfl) hS (lv_sub hl [0, 1, 2, 3, 4, 5, 6, 7] rfl)
        · subst e_4
          refine lv_istore (lv' := [(5, .int 1), (0, .ref h), (1, .int v), (2, .int a), (3, .int i), (4, .int n)]) hx hb dX8_fits_44 hl (by decide) rfl (fun ls hl => ?_)
          refine lv_iload hx hb dX8_fits_46 (lv_at hl 0 rfl) ?_
          refine lv_if_le (tgt := 58) hx hb dX8_fits_48 (by decide) (fun c9 => absurd c9 (by decide)) (fun _ => ?_)
          refine lv_aload_n hx hb dX8_fits_51 rfl (lv_at hl 1 rfl) ?_
          refine lv_iload hx hb dX8_fits_52 (lv_at hl 0 rfl) ?_
          have k_29 := (g_X8_finds l D cI cB cQ H.size h sl zs ln ir tk tb tr fz na su le fu ap pp tc nm 1)
          refine wc_i (WC := [(h, .inr (7, [.ref sl, .int na, .ref zs, .ref ln, .ref ir, .ref tk, .int su, .int le, .ref tb, .int fu, .int ap, .int pp, .ref tr, .int tc, .ref fz, .int nm]))]) (WR := [(ir, .inl (cI, 320, .inl irf)), (sl, .inl (cI, 1653, .inl sf)), (zs, .inl (cI, 8, .inl zf))]) (va_runV (As := [.int 1]) (rest := []) ⟨hx, hb, hml, hown, hts⟩ k_29 (cwV 1 hts gX8_fits_X8_finds rfl rfl rfl (by decide +kernel) ⟨Nat.le_of_ble_eq_true rfl, Nat.le_of_ble_eq_true rfl⟩) (wp_V hP hK hD hN [2] (by decide) rfl (ci := 7) rfl rfl) rfl rfl hl.1 rfl (lv_room (Nat.le_of_ble_eq_true rfl)) dX8_fits_54 ⟨Nat.le_of_ble_eq_true rfl, Nat.le_of_ble_eq_true rfl⟩) hP hD hS hA [2] [0, 1, 3] rfl rfl (by decide) (by decide) (fun r_29 u_29 H locs hw_29 hP hD hS => ?_)
          clear k_29
          have hP : va_P D kl [(ir, .inl (cI, 320, .inl irf)), (sl, .inl (cI, 1653, .inl sf)), (zs, .inl (cI, 8, .inl zf)), (h, .inr (7, [.ref sl, .int na, .ref zs, .ref ln, .ref ir, .ref tk, .int u_29, .int le, .ref tb, .int fu, .int ap, .int pp, .ref tr, .int tc, .ref fz, .int nm]))] H := hP
          have hD : va_D A [(ir, .inl (cI, 320, .inl irf)), (sl, .inl (cI, 1653, .inl sf)), (zs, .inl (cI, 8, .inl zf)), (h, .inr (7, [.ref sl, .int na, .ref zs, .ref ln, .ref ir, .ref tk, .int u_29, .int le, .ref tb, .int fu, .int ap, .int pp, .ref tr, .int tc, .ref fz, .int nm]))] := hD
          clear hw_29
          exact wr_i (v := r_29) hx hb hr hlocks hS (sf, u_29) (by exact hsi) (hP.sub [3, 1, 2, 0] rfl) (hD.sub [3, 1, 2, 0] (by decide) rfl) dX8_fits_57
        · subst e_4
          refine lv_istore (lv' := [(5, .int 2), (0, .ref h), (1, .int v), (2, .int a), (3, .int i), (4, .int n)]) hx hb dX8_fits_44 hl (by decide) rfl (fun ls hl => ?_)
          refine lv_iload hx hb dX8_fits_46 (lv_at hl 0 rfl) ?_
          refine lv_if_le (tgt := 58) hx hb dX8_fits_48 (by decide) (fun c9 => absurd c9 (by decide)) (fun _ => ?_)
          refine lv_aload_n hx hb dX8_fits_51 rfl (lv_at hl 1 rfl) ?_
          refine lv_iload hx hb dX8_fits_52 (lv_at hl 0 rfl) ?_
          have k_30 := (g_X8_finds l D cI cB cQ H.size h sl zs ln ir tk tb tr fz na su le fu ap pp tc nm 2)
          refine wc_i (WC := [(h, .inr (7, [.ref sl, .int na, .ref zs, .ref ln, .ref ir, .ref tk, .int su, .int le, .ref tb, .int fu, .int ap, .int pp, .ref tr, .int tc, .ref fz, .int nm]))]) (WR := [(ir, .inl (cI, 320, .inl irf)), (sl, .inl (cI, 1653, .inl sf)), (zs, .inl (cI, 8, .inl zf))]) (va_runV (As := [.int 2]) (rest := []) ⟨hx, hb, hml, hown, hts⟩ k_30 (cwV 1 hts gX8_fits_X8_finds rfl rfl rfl (by decide +kernel) ⟨Nat.le_of_ble_eq_true rfl, Nat.le_of_ble_eq_true rfl⟩) (wp_V hP hK hD hN [2] (by decide) rfl (ci := 7) rfl rfl) rfl rfl hl.1 rfl (lv_room (Nat.le_of_ble_eq_true rfl)) dX8_fits_54 ⟨Nat.le_of_ble_eq_true rfl, Nat.le_of_ble_eq_true rfl⟩) hP hD hS hA [2] [0, 1, 3] rfl rfl (by decide) (by decide) (fun r_30 u_30 H locs hw_30 hP hD hS => ?_)
          clear k_30
          have hP : va_P D kl [(ir, .inl (cI, 320, .inl irf)), (sl, .inl (cI, 1653, .inl sf)), (zs, .inl (cI, 8, .inl zf)), (h, .inr (7, [.ref sl, .int na, .ref zs, .ref ln, .ref ir, .ref tk, .int u_30, .int le, .ref tb, .int fu, .int ap, .int pp, .ref tr, .int tc, .ref fz, .int nm]))] H := hP
          have hD : va_D A [(ir, .inl (cI, 320, .inl irf)), (sl, .inl (cI, 1653, .inl sf)), (zs, .inl (cI, 8, .inl zf)), (h, .inr (7, [.ref sl, .int na, .ref zs, .ref ln, .ref ir, .ref tk, .int u_30, .int le, .ref tb, .int fu, .int ap, .int pp, .ref tr, .int tc, .ref fz, .int nm]))] := hD
          clear hw_30
          exact wr_i (v := r_30) hx hb hr hlocks hS (sf, u_30) (by exact hsi) (hP.sub [3, 1, 2, 0] rfl) (hD.sub [3, 1, 2, 0] (by decide) rfl) dX8_fits_57
      · subst e_3
        have f_3 : ¬ ((1 : Int) ≤ n.toInt ∧ n.toInt ≤ (24 : Int)) := by
          have h8 := f_3
          try simp only [zl_of] at h8
          exact h8
        refine lv_if_ne (tgt := 36) hx hb dX8_fits_30 (by decide) (fun c9 => absurd (by decide) c9) (fun _ => ?_)
        refine lv_ldc (v := (-1000001)) hx hb hown (hts (.constant RX8 48 (-1000001)) (List.mem_of_getElem? (i := 3) rfl)) dX8_fits_33 ?_
        exact wr_i (v := (-1000001)) hx hb hr hlocks hS (sf, su) (by exact hsi) (hP.sub [2, 3, 0, 1] rfl) (hD.sub [2, 3, 0, 1] (by decide) rfl) dX8_fits_35
    · subst e_2
      have f_2 : ¬ ((0 : Int) ≤ a.toInt ∧ a.toInt ≤ (7 : Int)) := by
        have h8 := f_2
        try simp only [zl_of] at h8
        exact h8
      refine lv_if_eq (tgt := 33) hx hb dX8_fits_17 (by decide) (fun _ => ?_) (fun c9 => absurd (by decide) c9)
      refine lv_ldc (v := (-1000001)) hx hb hown (hts (.constant RX8 48 (-1000001)) (List.mem_of_getElem? (i := 3) rfl)) dX8_fits_33 ?_
      exact wr_i (v := (-1000001)) hx hb hr hlocks hS (sf, su) (by exact hsi) (hP.sub [2, 3, 0, 1] rfl) (hD.sub [2, 3, 0, 1] (by decide) rfl) dX8_fits_35
  · subst e_1
    refine lv_if_eq (tgt := 33) hx hb dX8_fits_5 (by decide) (fun _ => ?_) (fun c9 => absurd (by decide) c9)
    refine lv_ldc (v := (-1000001)) hx hb hown (hts (.constant RX8 48 (-1000001)) (List.mem_of_getElem? (i := 3) rfl)) dX8_fits_33 ?_
    exact wr_i (v := (-1000001)) hx hb hr hlocks hS (sf, su) (by exact hsi) (hP.sub [2, 3, 0, 1] rfl) (hD.sub [2, 3, 0, 1] (by decide) rfl) dX8_fits_35
set_option maxHeartbeats 4000000 in
set_option maxRecDepth 100000 in
theorem g_X8_round (l : Launch) (D : va_G) (cI cB cQ : ClassId) (sz : Nat) (h : Nat) (sl : Nat) (zs : Nat) (ln : Nat) (ir : Nat) (tk : Nat) (tb : Nat) (tr : Nat) (fz : Nat) (na : Int32) (su : Int32) (le : Int32) (fu : Int32) (ap : Int32) (pp : Int32) (tc : Int32) (nm : Int32) (v : Int32) (sf : Nat → Int32) (v0 : Int) (hsi : SI sf v0) : mi l yX8_round wsX8_round ({ frames := 5, cells := 0, slots := 0, locals := 122 }) D cI cB cQ [.ref h, .int v] sz [(h, .inr (7, [.ref sl, .int na, .ref zs, .ref ln, .ref ir, .ref tk, .int su, .int le, .ref tb, .int fu, .int ap, .int pp, .ref tr, .int tc, .ref fz, .int nm])), (sl, .inl (cI, 1653, .inl sf))] (fun (r : Int32) (u : (Nat → Int32)) => (SI u v0)) (fun u => [(h, .inr (7, [.ref sl, .int na, .ref zs, .ref ln, .ref ir, .ref tk, .int su, .int le, .ref tb, .int fu, .int ap, .int pp, .ref tr, .int tc, .ref fz, .int nm])), (sl, .inl (cI, 1653, .inl u))]) 0 0 := by
  refine wm_i (cc := cX8_round) (maxL := 4) (ret := (some .int)) (by decide) rfl (Nat.le_of_ble_eq_true rfl) ?_
  intro p e s m below meth c A ls hx hb hr hml hown hts hlocks hin hP hK hD hN hA hl hS
  have hown : s.vm.findClass RX8 = some m.cls := hown
  have hl : lv_has ls 4 [(0, .ref h), (1, .int v)] := hl
  change W p l e ({ frames := 5, cells := 0, slots := 0, locals := 122 }) s m ([.ref h, .int v] : List Value).toArray below meth c s.heap [] 0 0 (MQ below (va_Qi (fun (r : Int32) (u : (Nat → Int32)) => (SI u v0)) (fun u t => wb D A ((fun u => [(h, .inr (7, [.ref sl, .int na, .ref zs, .ref ln, .ref ir, .ref tk, .int su, .int le, .ref tb, .int fu, .int ap, .int pp, .ref tr, .int tc, .ref fz, .int nm])), (sl, .inl (cI, 1653, .inl u))]) u) t) A) ([.ref h, .int v] : List Value).toArray s 0 0 A) (F0 m 0 ls [])
  refine lv_aload_n hx hb dX8_round_0 rfl (lv_at hl 0 rfl) ?_
  refine lv_iload_n hx hb dX8_round_1 rfl (lv_at hl 1 rfl) ?_
  have k_1 := (g_X8_isWalkerThere l D cI cB cQ s.heap.size h sl zs ln ir tk tb tr fz na su le fu ap pp tc nm v sf v0 hsi)
  refine wc_i (WC := [(h, .inr (7, [.ref sl, .int na, .ref zs, .ref ln, .ref ir, .ref tk, .int su, .int le, .ref tb, .int fu, .int ap, .int pp, .ref tr, .int tc, .ref fz, .int nm])), (sl, .inl (cI, 1653, .inl sf))]) (WR := []) (va_runV (As := [.int v]) (rest := []) ⟨hx, hb, hml, hown, hts⟩ k_1 (cwV 1 hts gX8_round_X8_isWalkerThere rfl rfl rfl (by decide +kernel) ⟨Nat.le_of_ble_eq_true rfl, Nat.le_of_ble_eq_true rfl⟩) (wp_V hP hK hD hN [0, 1] (by decide) rfl (ci := 7) rfl rfl) rfl rfl hl.1 rfl (lv_room (Nat.le_of_ble_eq_true rfl)) dX8_round_2 ⟨Nat.le_of_ble_eq_true rfl, Nat.le_of_ble_eq_true rfl⟩) hP hD hS hA [0, 1] [] rfl rfl (by decide) (by decide) (fun r_1 u_1 H locs hw_1 hP hD hS => ?_)
  clear k_1
  have hP : va_P D kl [(h, .inr (7, [.ref sl, .int na, .ref zs, .ref ln, .ref ir, .ref tk, .int su, .int le, .ref tb, .int fu, .int ap, .int pp, .ref tr, .int tc, .ref fz, .int nm])), (sl, .inl (cI, 1653, .inl sf))] H := hP
  have hD : va_D A [(h, .inr (7, [.ref sl, .int na, .ref zs, .ref ln, .ref ir, .ref tk, .int su, .int le, .ref tb, .int fu, .int ap, .int pp, .ref tr, .int tc, .ref fz, .int nm])), (sl, .inl (cI, 1653, .inl sf))] := hD
  have c1_0 := hw_1
  rcases c1_0 with ⟨e_1, f_1⟩ | e_1
  · subst e_1
    have f_1 : 0 ≤ v.toInt ∧ v.toInt ≤ 2 := f_1
    refine lv_if_ne (tgt := 11) hx hb dX8_round_5 (by decide) (fun _ => ?_) (fun c9 => absurd c9 (by decide))
    refine lv_aload_n hx hb dX8_round_11 rfl (lv_at hl 0 rfl) ?_
    refine lv_iconst (v := 0) hx hb dX8_round_12 (by decide) ?_
    refine lv_bipush (v := 27) hx hb dX8_round_13 (by decide) ?_
    have k_2 := (g_X8_copies l D cI cB cQ H.size h sl zs ln ir tk tb tr fz na su le fu ap pp tc nm 0 27 sf v0 hsi ⟨by decide, by decide⟩ ⟨by decide, by decide⟩)
    refine wc_v (WC := [(h, .inr (7, [.ref sl, .int na, .ref zs, .ref ln, .ref ir, .ref tk, .int su, .int le, .ref tb, .int fu, .int ap, .int pp, .ref tr, .int tc, .ref fz, .int nm])), (sl, .inl (cI, 1653, .inl sf))]) (WR := []) (va_runV (As := [.int 0, .int 27]) (rest := []) ⟨hx, hb, hml, hown, hts⟩ k_2 (cwV 2 hts gX8_round_X8_copies rfl rfl rfl (by decide +kernel) ⟨Nat.le_of_ble_eq_true rfl, Nat.le_of_ble_eq_true rfl⟩) (wp_V hP hK hD hN [0, 1] (by decide) rfl (ci := 7) rfl rfl) rfl rfl hl.1 rfl (lv_room (Nat.le_of_ble_eq_true rfl)) dX8_round_15 ⟨Nat.le_of_ble_eq_true rfl, Nat.le_of_ble_eq_true rfl⟩) hP hD hS hA [0, 1] [] rfl rfl (by decide) (by decide) (fun u_2 H locs hw_2 hP hD hS => ?_)
    clear k_2
    have hP : va_P D kl [(h, .inr (7, [.ref sl, .int na, .ref zs, .ref ln, .ref ir, .ref tk, .int su, .int le, .ref tb, .int fu, .int ap, .int pp, .ref tr, .int tc, .ref fz, .int nm])), (sl, .inl (cI, 1653, .inl u_2))] H := hP
    have hD : va_D A [(h, .inr (7, [.ref sl, .int na, .ref zs, .ref ln, .ref ir, .ref tk, .int su, .int le, .ref tb, .int fu, .int ap, .int pp, .ref tr, .int tc, .ref fz, .int nm])), (sl, .inl (cI, 1653, .inl u_2))] := hD
    have c2_0 := hw_2
    have c2_0 : SI u_2 v0 := c2_0
    refine lv_iconst (v := 0) hx hb dX8_round_18 (by decide) ?_
    refine lv_istore_n (lv' := [(2, .int 0), (0, .ref h), (1, .int v)]) hx hb dX8_round_19 rfl hl (by decide) rfl (fun ls hl => ?_)
    refine lv_iconst (v := 0) hx hb dX8_round_20 (by decide) ?_
    refine lv_istore_n (lv' := [(3, .int 0), (2, .int 0), (0, .ref h), (1, .int v)]) hx hb dX8_round_21 rfl hl (by decide) rfl (fun ls hl => ?_)
    have hL22 : ∀ (nf : Nat) (t3_c22 : Int32) (t2_c22 : Int32) (g0_c22 : Nat → Int32) (H : Heap) (locs : List Loc) (ls : Array Slot), (0 ≤ t3_c22.toInt ∧ t3_c22.toInt ≤ 200) → (SI g0_c22 v0) → (200 - t3_c22.toInt).toNat < nf → va_P D kl [(h, .inr (7, [.ref sl, .int na, .ref zs, .ref ln, .ref ir, .ref tk, .int su, .int le, .ref tb, .int fu, .int ap, .int pp, .ref tr, .int tc, .ref fz, .int nm])), (sl, .inl (cI, 1653, .inl g0_c22))] H → va_D A [(h, .inr (7, [.ref sl, .int na, .ref zs, .ref ln, .ref ir, .ref tk, .int su, .int le, .ref tb, .int fu, .int ap, .int pp, .ref tr, .int tc, .ref fz, .int nm])), (sl, .inl (cI, 1653, .inl g0_c22))] → va_S A s.heap H locs → lv_has ls 4 [(3, .int t3_c22), (2, .int t2_c22), (0, .ref h), (1, .int v)] → W p l e ({ frames := 5, cells := 0, slots := 0, locals := 122 }) s m ([.ref h, .int v] : List Value).toArray below meth c H locs 0 0 (MQ below (va_Qi (fun (r : Int32) (u : (Nat → Int32)) => (SI u v0)) (fun u t => wb D A ((fun u => [(h, .inr (7, [.ref sl, .int na, .ref zs, .ref ln, .ref ir, .ref tk, .int su, .int le, .ref tb, .int fu, .int ap, .int pp, .ref tr, .int tc, .ref fz, .int nm])), (sl, .inl (cI, 1653, .inl u))]) u) t) A) ([.ref h, .int v] : List Value).toArray s 0 0 A) (F0 m 22 ls []) := by
      intro nf
      induction nf with
      | zero =>
        intro t3_c22 t2_c22 g0_c22 H locs ls i_t3_c22 ha_g0_c22 hm
        exact absurd hm (Nat.not_lt_zero _)
      | succ nf ih22 =>
        intro t3_c22 t2_c22 g0_c22 H locs ls i_t3_c22 ha_g0_c22 hm22 hP hD hS hl
        refine lv_iload_n hx hb dX8_round_22 rfl (lv_at hl 0 rfl) ?_
        refine lv_sipush (v := 200) hx hb dX8_round_23 (by decide) ?_
        refine lv_icmp_ge (tgt := 67) hx hb dX8_round_26 (by decide) (fun c_3 => ?_) (fun c_3 => ?_)
        · have f_3 : 200 ≤ t3_c22.toInt := zi_le c_3
          refine lv_iload_n hx hb dX8_round_67 rfl (lv_at hl 1 rfl) ?_
          exact wr_i (v := t2_c22) hx hb hr hlocks hS g0_c22 (by exact ha_g0_c22) (hP.sub [0, 1] rfl) (hD.sub [0, 1] (by decide) rfl) dX8_round_68
        · have f_3 : ¬ 200 ≤ t3_c22.toInt := zi_nle c_3
          refine lv_aload_n hx hb dX8_round_29 rfl (lv_at hl 2 rfl) ?_
          refine lv_bipush (v := 27) hx hb dX8_round_30 (by decide) ?_
          refine lv_iconst (v := (-1)) hx hb dX8_round_32 (by decide) ?_
          have k_4 := (g_X8_day l D cI cB cQ H.size h sl zs ln ir tk tb tr fz na su le fu ap pp tc nm 27 (-1) g0_c22 v0 ha_g0_c22 ⟨by decide, by decide⟩)
          refine wc_v (WC := [(h, .inr (7, [.ref sl, .int na, .ref zs, .ref ln, .ref ir, .ref tk, .int su, .int le, .ref tb, .int fu, .int ap, .int pp, .ref tr, .int tc, .ref fz, .int nm])), (sl, .inl (cI, 1653, .inl g0_c22))]) (WR := []) (va_runV (As := [.int 27, .int (-1)]) (rest := []) ⟨hx, hb, hml, hown, hts⟩ k_4 (cwV 2 hts gX8_round_X8_day rfl rfl rfl (by decide +kernel) ⟨Nat.le_of_ble_eq_true rfl, Nat.le_of_ble_eq_true rfl⟩) (wp_V hP hK hD hN [0, 1] (by decide) rfl (ci := 7) rfl rfl) rfl rfl hl.1 rfl (lv_room (Nat.le_of_ble_eq_true rfl)) dX8_round_33 ⟨Nat.le_of_ble_eq_true rfl, Nat.le_of_ble_eq_true rfl⟩) hP hD hS hA [0, 1] [] rfl rfl (by decide) (by decide) (fun u_4 H locs hw_4 hP hD hS => ?_)
          clear k_4
          have hP : va_P D kl [(h, .inr (7, [.ref sl, .int na, .ref zs, .ref ln, .ref ir, .ref tk, .int su, .int le, .ref tb, .int fu, .int ap, .int pp, .ref tr, .int tc, .ref fz, .int nm])), (sl, .inl (cI, 1653, .inl u_4))] H := hP
          have hD : va_D A [(h, .inr (7, [.ref sl, .int na, .ref zs, .ref ln, .ref ir, .ref tk, .int su, .int le, .ref tb, .int fu, .int ap, .int pp, .ref tr, .int tc, .ref fz, .int nm])), (sl, .inl (cI, 1653, .inl u_4))] := hD
          have c4_0 := hw_4
          have c4_0 : SI u_4 v0 := c4_0
          refine lv_iload_n hx hb dX8_round_36 rfl (lv_at hl 1 rfl) ?_
          refine lv_iload_n hx hb dX8_round_37 rfl (lv_at hl 0 rfl) ?_
          refine lv_bipush (v := 100) hx hb dX8_round_38 (by decide) ?_
          refine lv_icmp_ge (tgt := 47) hx hb dX8_round_40 (by decide) (fun c_5 => ?_) (fun c_5 => ?_)
          · have f_5 : 100 ≤ t3_c22.toInt := zi_le c_5
            refine lv_iconst (v := 1) hx hb dX8_round_47 (by decide) ?_
            refine lv_aload_n hx hb dX8_round_48 rfl (lv_at hl 2 rfl) ?_
            refine va_get (D := D) (ci := 7) (v := .ref sl) (C := RX8) (T := TX8) (N := 16) hx hb hts (fun _ h => List.mem_cons_of_mem _ (List.mem_append_right _ h)) hown hK hP 0 rfl rfl 0 (by decide) (hts (.fieldLink RX8 7 "WinterWalkModel" "slot" "[I") (List.mem_of_getElem? (i := 2) rfl)) (fun _ h9 => h9) rfl dX8_round_49 ?_
            refine lv_sipush (v := 1587) hx hb dX8_round_52 (by decide) ?_
            refine lv_iload_n hx hb dX8_round_55 rfl (lv_at hl 3 rfl) ?_
            refine lv_iadd hx hb dX8_round_56 ?_
            refine lv_topi (fun x_6 ex_6 => ?_)
            have e_6 : x_6.toInt = 1587 + v.toInt := by rw [ex_6]; exact zi_add (by decide) (rfl) (by omega) (by omega)
            clear ex_6
            refine va_iald hx hb hK hP 1 0 rfl rfl (zi_in (by omega) (by omega)) dX8_round_57 ?_
            refine lv_topi (fun x_7 ex_7 => ?_)
            have f_7 : 0 ≤ x_7.toInt ∧ x_7.toInt ≤ 7 := by rw [ex_7]; exact si_a c4_0 (s := 27) (k := v.toInt) (by omega) (by omega) (by omega)
            clear ex_7
            refine lv_ishl hx hb dX8_round_58 ?_
            refine lv_topi (fun x_8 ex_8 => ?_)
            have e_8 : 1 ≤ x_8.toInt ∧ x_8.toInt ≤ 256 := by rw [ex_8]; exact zi_sh (by omega)
            clear ex_8
            refine lv_ior hx hb dX8_round_59 ?_
            refine lv_topi (fun x_9 ex_9 => ?_)
            clear ex_9
            refine lv_istore_n (lv' := [(2, .int x_9), (3, .int t3_c22), (0, .ref h), (1, .int v)]) hx hb dX8_round_60 rfl hl (by decide) rfl (fun ls hl => ?_)
            obtain ⟨x_10, ex_10⟩ : ∃ y : Int32, y = t3_c22 + Int32.ofInt 1 := ⟨_, rfl⟩
            refine lv_iinc (v := x_10) (lv' := [(3, .int x_10), (2, .int x_9), (0, .ref h), (1, .int v)]) hx hb dX8_round_61 hl (k := 1) rfl ex_10.symm (by decide) rfl (fun ls hl => ?_)
            have ex_10 : x_10 = t3_c22 + 1 := ex_10
            have e_10 : x_10.toInt = t3_c22.toInt + 1 := by rw [ex_10]; exact zi_add (rfl) (by decide) (by omega) (by omega)
            clear ex_10
            refine lv_goto (tgt := 22) hx hb dX8_round_64 (by decide) ?_
            exact ih22 x_10 x_9 u_4 _ _ _ (show 0 ≤ x_10.toInt ∧ x_10.toInt ≤ 200 from by omega) c4_0 (by omega) (hP.sub [0, 1] rfl) (hD.sub [0, 1] (by decide) rfl) hS (lv_sub hl [0, 1, 2, 3] rfl)
          · have f_5 : ¬ 100 ≤ t3_c22.toInt := zi_nle c_5
            refine lv_iconst (v := 0) hx hb dX8_round_43 (by decide) ?_
            refine lv_goto (tgt := 59) hx hb dX8_round_44 (by decide) ?_
            refine lv_ior hx hb dX8_round_59 ?_
            refine lv_topi (fun x_11 ex_11 => ?_)
            clear ex_11
            refine lv_istore_n (lv' := [(2, .int x_11), (3, .int t3_c22), (0, .ref h), (1, .int v)]) hx hb dX8_round_60 rfl hl (by decide) rfl (fun ls hl => ?_)
            obtain ⟨x_12, ex_12⟩ : ∃ y : Int32, y = t3_c22 + Int32.ofInt 1 := ⟨_, rfl⟩
            refine lv_iinc (v := x_12) (lv' := [(3, .int x_12), (2, .int x_11), (0, .ref h), (1, .int v)]) hx hb dX8_round_61 hl (k := 1) rfl ex_12.symm (by decide) rfl (fun ls hl => ?_)
            have ex_12 : x_12 = t3_c22 + 1 := ex_12
            have e_12 : x_12.toInt = t3_c22.toInt + 1 := by rw [ex_12]; exact zi_add (rfl) (by decide) (by omega) (by omega)
            clear ex_12
            refine lv_goto (tgt := 22) hx hb dX8_round_64 (by decide) ?_
            exact ih22 x_12 x_11 u_4 _ _ _ (show 0 ≤ x_12.toInt ∧ x_12.toInt ≤ 200 from by omega) c4_0 (by omega) (hP.sub [0, 1] rfl) (hD.sub [0, 1] (by decide) rfl) hS (lv_sub hl [0, 1, 2, 3] rfl)
    exact hL22 (((200 - (0 : Int32).toInt).toNat) + 1) 0 0 u_2 _ _ _ (show 0 ≤ 0 ∧ 0 ≤ 200 from by omega) c2_0 (Nat.lt_succ_self _) (hP.sub [0, 1] rfl) (hD.sub [0, 1] (by decide) rfl) hS (lv_sub hl [0, 1, 2, 3] rfl)
  · subst e_1
    refine lv_if_ne (tgt := 11) hx hb dX8_round_5 (by decide) (fun c9 => absurd (by decide) c9) (fun _ => ?_)
    refine lv_ldc (v := (-1000001)) hx hb hown (hts (.constant RX8 48 (-1000001)) (List.mem_of_getElem? (i := 1) rfl)) dX8_round_8 ?_
    exact wr_i (v := (-1000001)) hx hb hr hlocks hS sf (by exact hsi) (hP.sub [0, 1] rfl) (hD.sub [0, 1] (by decide) rfl) dX8_round_10
set_option maxHeartbeats 4000000 in
set_option maxRecDepth 100000 in
theorem g_X8_meets (l : Launch) (D : va_G) (cI cB cQ : ClassId) (sz : Nat) (h : Nat) (sl : Nat) (zs : Nat) (ln : Nat) (ir : Nat) (tk : Nat) (tb : Nat) (tr : Nat) (fz : Nat) (na : Int32) (su : Int32) (le : Int32) (fu : Int32) (ap : Int32) (pp : Int32) (tc : Int32) (nm : Int32) (k : Int32) (sf : Nat → Int32) (v0 : Int) (hsi : SI sf v0) (h_k : 0 ≤ k.toInt ∧ k.toInt ≤ 28) : mi l yX8_meets wsX8_meets ({ frames := 0, cells := 0, slots := 0, locals := 0 }) D cI cB cQ [.ref h, .int k] sz [(h, .inr (7, [.ref sl, .int na, .ref zs, .ref ln, .ref ir, .ref tk, .int su, .int le, .ref tb, .int fu, .int ap, .int pp, .ref tr, .int tc, .ref fz, .int nm])), (sl, .inl (cI, 1653, .inl sf))] (fun (r : Int32) (_u : Unit) => True) (fun _ => [(h, .inr (7, [.ref sl, .int na, .ref zs, .ref ln, .ref ir, .ref tk, .int su, .int le, .ref tb, .int fu, .int ap, .int pp, .ref tr, .int tc, .ref fz, .int nm])), (sl, .inl (cI, 1653, .inl sf))]) 0 0 := by
  refine wm_i (cc := cX8_meets) (maxL := 6) (ret := (some .int)) (by decide) rfl (Nat.le_of_ble_eq_true rfl) ?_
  intro p e s m below meth c A ls hx hb hr hml hown hts hlocks hin hP hK hD hN hA hl hS
  have hown : s.vm.findClass RX8 = some m.cls := hown
  have hl : lv_has ls 6 [(0, .ref h), (1, .int k)] := hl
  change W p l e ({ frames := 0, cells := 0, slots := 0, locals := 0 }) s m ([.ref h, .int k] : List Value).toArray below meth c s.heap [] 0 0 (MQ below (va_Qi (fun (r : Int32) (_u : Unit) => True) (fun u t => wb D A ((fun _ => [(h, .inr (7, [.ref sl, .int na, .ref zs, .ref ln, .ref ir, .ref tk, .int su, .int le, .ref tb, .int fu, .int ap, .int pp, .ref tr, .int tc, .ref fz, .int nm])), (sl, .inl (cI, 1653, .inl sf))]) u) t) A) ([.ref h, .int k] : List Value).toArray s 0 0 A) (F0 m 0 ls [])
  refine lv_ldc (v := (-1000000)) hx hb hown (hts (.constant RX8 99 (-1000000)) (List.mem_of_getElem? (i := 1) rfl)) dX8_meets_0 ?_
  refine lv_istore_n (lv' := [(2, .int (-1000000)), (0, .ref h), (1, .int k)]) hx hb dX8_meets_2 rfl hl (by decide) rfl (fun ls hl => ?_)
  refine lv_iconst (v := 0) hx hb dX8_meets_3 (by decide) ?_
  refine lv_istore_n (lv' := [(3, .int 0), (2, .int (-1000000)), (0, .ref h), (1, .int k)]) hx hb dX8_meets_4 rfl hl (by decide) rfl (fun ls hl => ?_)
  have hL5 : ∀ (nf : Nat) (t3_c5 : Int32) (t2_c5 : Int32) (H : Heap) (locs : List Loc) (ls : Array Slot), (0 ≤ t3_c5.toInt ∧ t3_c5.toInt ≤ 3) → (3 - t3_c5.toInt).toNat < nf → va_P D kl [(h, .inr (7, [.ref sl, .int na, .ref zs, .ref ln, .ref ir, .ref tk, .int su, .int le, .ref tb, .int fu, .int ap, .int pp, .ref tr, .int tc, .ref fz, .int nm])), (sl, .inl (cI, 1653, .inl sf))] H → va_D A [(h, .inr (7, [.ref sl, .int na, .ref zs, .ref ln, .ref ir, .ref tk, .int su, .int le, .ref tb, .int fu, .int ap, .int pp, .ref tr, .int tc, .ref fz, .int nm])), (sl, .inl (cI, 1653, .inl sf))] → va_S A s.heap H locs → lv_has ls 6 [(3, .int t3_c5), (2, .int t2_c5), (0, .ref h), (1, .int k)] → W p l e ({ frames := 0, cells := 0, slots := 0, locals := 0 }) s m ([.ref h, .int k] : List Value).toArray below meth c H locs 0 0 (MQ below (va_Qi (fun (r : Int32) (_u : Unit) => True) (fun u t => wb D A ((fun _ => [(h, .inr (7, [.ref sl, .int na, .ref zs, .ref ln, .ref ir, .ref tk, .int su, .int le, .ref tb, .int fu, .int ap, .int pp, .ref tr, .int tc, .ref fz, .int nm])), (sl, .inl (cI, 1653, .inl sf))]) u) t) A) ([.ref h, .int k] : List Value).toArray s 0 0 A) (F0 m 5 ls []) := by
    intro nf
    induction nf with
    | zero =>
      intro t3_c5 t2_c5 H locs ls i_t3_c5 hm
      exact absurd hm (Nat.not_lt_zero _)
    | succ nf ih5 =>
      intro t3_c5 t2_c5 H locs ls i_t3_c5 hm5 hP hD hS hl
      refine lv_iload_n hx hb dX8_meets_5 rfl (lv_at hl 0 rfl) ?_
      refine lv_aload_n hx hb dX8_meets_6 rfl (lv_at hl 2 rfl) ?_
      refine va_get (D := D) (ci := 7) (v := .ref sl) (C := RX8) (T := TX8) (N := 16) hx hb hts (fun _ h => List.mem_cons_of_mem _ (List.mem_append_right _ h)) hown hK hP 0 rfl rfl 0 (by decide) (hts (.fieldLink RX8 7 "WinterWalkModel" "slot" "[I") (List.mem_of_getElem? (i := 2) rfl)) (fun _ h9 => h9) rfl dX8_meets_7 ?_
      refine lv_iload_n hx hb dX8_meets_10 rfl (lv_at hl 3 rfl) ?_
      refine lv_bipush (v := 57) hx hb dX8_meets_11 (by decide) ?_
      refine lv_imul hx hb dX8_meets_13 ?_
      refine lv_topi (fun x_1 ex_1 => ?_)
      have e_1 : x_1.toInt = k.toInt * 57 := by rw [ex_1]; exact zi_mul (rfl) (by decide) (by omega) (by omega)
      clear ex_1
      refine lv_iconst (v := 2) hx hb dX8_meets_14 (by decide) ?_
      refine lv_iadd hx hb dX8_meets_15 ?_
      refine lv_topi (fun x_2 ex_2 => ?_)
      have e_2 : x_2.toInt = x_1.toInt + 2 := by rw [ex_2]; exact zi_add (rfl) (by decide) (by omega) (by omega)
      clear ex_2
      refine va_iald hx hb hK hP 1 0 rfl rfl (zi_in (by omega) (by omega)) dX8_meets_16 ?_
      refine lv_topi (fun x_3 ex_3 => ?_)
      have f_3 : 0 ≤ x_3.toInt ∧ x_3.toInt ≤ 3 := by rw [ex_3]; exact si_w hsi (s := k.toInt) (by omega) (by omega)
      clear ex_3
      refine lv_icmp_ge (tgt := 94) hx hb dX8_meets_17 (by decide) (fun c_4 => ?_) (fun c_4 => ?_)
      · have f_4 : x_3.toInt ≤ t3_c5.toInt := zi_le c_4
        refine lv_iload_n hx hb dX8_meets_94 rfl (lv_at hl 1 rfl) ?_
        exact wr_i (v := t2_c5) hx hb hr hlocks hS () (by trivial) (hP.sub [0, 1] rfl) (hD.sub [0, 1] (by decide) rfl) dX8_meets_95
      · have f_4 : ¬ x_3.toInt ≤ t3_c5.toInt := zi_nle c_4
        refine lv_iconst (v := 0) hx hb dX8_meets_20 (by decide) ?_
        refine lv_istore (lv' := [(4, .int 0), (3, .int t3_c5), (2, .int t2_c5), (0, .ref h), (1, .int k)]) hx hb dX8_meets_21 hl (by decide) rfl (fun ls hl => ?_)
        have hL23 : ∀ (nf : Nat) (t4_c23 : Int32) (t2_c23 : Int32) (H : Heap) (locs : List Loc) (ls : Array Slot), (0 ≤ t4_c23.toInt ∧ t4_c23.toInt ≤ 3) → (3 - t4_c23.toInt).toNat < nf → va_P D kl [(h, .inr (7, [.ref sl, .int na, .ref zs, .ref ln, .ref ir, .ref tk, .int su, .int le, .ref tb, .int fu, .int ap, .int pp, .ref tr, .int tc, .ref fz, .int nm])), (sl, .inl (cI, 1653, .inl sf))] H → va_D A [(h, .inr (7, [.ref sl, .int na, .ref zs, .ref ln, .ref ir, .ref tk, .int su, .int le, .ref tb, .int fu, .int ap, .int pp, .ref tr, .int tc, .ref fz, .int nm])), (sl, .inl (cI, 1653, .inl sf))] → va_S A s.heap H locs → lv_has ls 6 [(4, .int t4_c23), (3, .int t3_c5), (2, .int t2_c23), (0, .ref h), (1, .int k)] → W p l e ({ frames := 0, cells := 0, slots := 0, locals := 0 }) s m ([.ref h, .int k] : List Value).toArray below meth c H locs 0 0 (MQ below (va_Qi (fun (r : Int32) (_u : Unit) => True) (fun u t => wb D A ((fun _ => [(h, .inr (7, [.ref sl, .int na, .ref zs, .ref ln, .ref ir, .ref tk, .int su, .int le, .ref tb, .int fu, .int ap, .int pp, .ref tr, .int tc, .ref fz, .int nm])), (sl, .inl (cI, 1653, .inl sf))]) u) t) A) ([.ref h, .int k] : List Value).toArray s 0 0 A) (F0 m 23 ls []) := by
          intro nf
          induction nf with
          | zero =>
            intro t4_c23 t2_c23 H locs ls i_t4_c23 hm
            exact absurd hm (Nat.not_lt_zero _)
          | succ nf ih23 =>
            intro t4_c23 t2_c23 H locs ls i_t4_c23 hm23 hP hD hS hl
            refine lv_iload hx hb dX8_meets_23 (lv_at hl 0 rfl) ?_
            refine lv_iload_n hx hb dX8_meets_25 rfl (lv_at hl 1 rfl) ?_
            refine lv_icmp_ge (tgt := 88) hx hb dX8_meets_26 (by decide) (fun c_5 => ?_) (fun c_5 => ?_)
            · have f_5 : t3_c5.toInt ≤ t4_c23.toInt := zi_le c_5
              obtain ⟨x_6, ex_6⟩ : ∃ y : Int32, y = t3_c5 + Int32.ofInt 1 := ⟨_, rfl⟩
              refine lv_iinc (v := x_6) (lv' := [(3, .int x_6), (4, .int t4_c23), (2, .int t2_c23), (0, .ref h), (1, .int k)]) hx hb dX8_meets_88 hl (k := 1) rfl ex_6.symm (by decide) rfl (fun ls hl => ?_)
              have ex_6 : x_6 = t3_c5 + 1 := ex_6
              have e_6 : x_6.toInt = t3_c5.toInt + 1 := by rw [ex_6]; exact zi_add (rfl) (by decide) (by omega) (by omega)
              clear ex_6
              refine lv_goto (tgt := 5) hx hb dX8_meets_91 (by decide) ?_
              exact ih5 x_6 t2_c23 _ _ _ (show 0 ≤ x_6.toInt ∧ x_6.toInt ≤ 3 from by omega) (by omega) (hP.sub [0, 1] rfl) (hD.sub [0, 1] (by decide) rfl) hS (lv_sub hl [0, 2, 3, 4] rfl)
            · have f_5 : ¬ t3_c5.toInt ≤ t4_c23.toInt := zi_nle c_5
              refine lv_aload_n hx hb dX8_meets_29 rfl (lv_at hl 3 rfl) ?_
              refine va_get (D := D) (ci := 7) (v := .ref sl) (C := RX8) (T := TX8) (N := 16) hx hb hts (fun _ h => List.mem_cons_of_mem _ (List.mem_append_right _ h)) hown hK hP 0 rfl rfl 0 (by decide) (hts (.fieldLink RX8 7 "WinterWalkModel" "slot" "[I") (List.mem_of_getElem? (i := 2) rfl)) (fun _ h9 => h9) rfl dX8_meets_30 ?_
              refine lv_iload_n hx hb dX8_meets_33 rfl (lv_at hl 4 rfl) ?_
              refine lv_bipush (v := 57) hx hb dX8_meets_34 (by decide) ?_
              refine lv_imul hx hb dX8_meets_36 ?_
              refine lv_topi (fun x_7 ex_7 => ?_)
              have e_7 : x_7.toInt = k.toInt * 57 := by rw [ex_7]; exact zi_mul (rfl) (by decide) (by omega) (by omega)
              clear ex_7
              refine lv_bipush (v := 48) hx hb dX8_meets_37 (by decide) ?_
              refine lv_iadd hx hb dX8_meets_39 ?_
              refine lv_topi (fun x_8 ex_8 => ?_)
              have e_8 : x_8.toInt = x_7.toInt + 48 := by rw [ex_8]; exact zi_add (rfl) (by decide) (by omega) (by omega)
              clear ex_8
              refine lv_iload_n hx hb dX8_meets_40 rfl (lv_at hl 1 rfl) ?_
              refine lv_iadd hx hb dX8_meets_41 ?_
              refine lv_topi (fun x_9 ex_9 => ?_)
              have e_9 : x_9.toInt = x_8.toInt + t3_c5.toInt := by rw [ex_9]; exact zi_add (rfl) (rfl) (by omega) (by omega)
              clear ex_9
              refine va_iald hx hb hK hP 1 0 rfl rfl (zi_in (by omega) (by omega)) dX8_meets_42 ?_
              refine lv_topi (fun x_10 ex_10 => ?_)
              have f_10 : 0 ≤ x_10.toInt ∧ x_10.toInt ≤ 7 := by rw [ex_10]; exact si_a hsi (s := k.toInt) (k := t3_c5.toInt) (by omega) (by omega) (by omega)
              clear ex_10
              refine lv_istore (lv' := [(5, .int x_10), (4, .int t4_c23), (3, .int t3_c5), (2, .int t2_c23), (0, .ref h), (1, .int k)]) hx hb dX8_meets_43 hl (by decide) rfl (fun ls hl => ?_)
              refine lv_iload hx hb dX8_meets_45 (lv_at hl 0 rfl) ?_
              refine lv_aload_n hx hb dX8_meets_47 rfl (lv_at hl 4 rfl) ?_
              refine va_get (D := D) (ci := 7) (v := .ref sl) (C := RX8) (T := TX8) (N := 16) hx hb hts (fun _ h => List.mem_cons_of_mem _ (List.mem_append_right _ h)) hown hK hP 0 rfl rfl 0 (by decide) (hts (.fieldLink RX8 7 "WinterWalkModel" "slot" "[I") (List.mem_of_getElem? (i := 2) rfl)) (fun _ h9 => h9) rfl dX8_meets_48 ?_
              refine lv_iload_n hx hb dX8_meets_51 rfl (lv_at hl 5 rfl) ?_
              refine lv_bipush (v := 57) hx hb dX8_meets_52 (by decide) ?_
              refine lv_imul hx hb dX8_meets_54 ?_
              refine lv_topi (fun x_11 ex_11 => ?_)
              have e_11 : x_11.toInt = k.toInt * 57 := by rw [ex_11]; exact zi_mul (rfl) (by decide) (by omega) (by omega)
              clear ex_11
              refine lv_bipush (v := 48) hx hb dX8_meets_55 (by decide) ?_
              refine lv_iadd hx hb dX8_meets_57 ?_
              refine lv_topi (fun x_12 ex_12 => ?_)
              have e_12 : x_12.toInt = x_11.toInt + 48 := by rw [ex_12]; exact zi_add (rfl) (by decide) (by omega) (by omega)
              clear ex_12
              refine lv_iload hx hb dX8_meets_58 (lv_at hl 1 rfl) ?_
              refine lv_iadd hx hb dX8_meets_60 ?_
              refine lv_topi (fun x_13 ex_13 => ?_)
              have e_13 : x_13.toInt = x_12.toInt + t4_c23.toInt := by rw [ex_13]; exact zi_add (rfl) (rfl) (by omega) (by omega)
              clear ex_13
              refine va_iald hx hb hK hP 1 0 rfl rfl (zi_in (by omega) (by omega)) dX8_meets_61 ?_
              refine lv_topi (fun x_14 ex_14 => ?_)
              have f_14 : 0 ≤ x_14.toInt ∧ x_14.toInt ≤ 7 := by rw [ex_14]; exact si_a hsi (s := k.toInt) (k := t4_c23.toInt) (by omega) (by omega) (by omega)
              clear ex_14
              refine lv_icmp_ne (tgt := 80) hx hb dX8_meets_62 (by decide) (fun c_15 => ?_) (fun c_15 => ?_)
              · have f_15 : ¬ x_10.toInt = x_14.toInt := zi_ne c_15
                refine lv_iload_n hx hb dX8_meets_80 rfl (lv_at hl 3 rfl) ?_
                refine lv_istore_n (lv' := [(2, .int t2_c23), (5, .int x_10), (4, .int t4_c23), (3, .int t3_c5), (0, .ref h), (1, .int k)]) hx hb dX8_meets_81 rfl hl (by decide) rfl (fun ls hl => ?_)
                obtain ⟨x_16, ex_16⟩ : ∃ y : Int32, y = t4_c23 + Int32.ofInt 1 := ⟨_, rfl⟩
                refine lv_iinc (v := x_16) (lv' := [(4, .int x_16), (2, .int t2_c23), (5, .int x_10), (3, .int t3_c5), (0, .ref h), (1, .int k)]) hx hb dX8_meets_82 hl (k := 2) rfl ex_16.symm (by decide) rfl (fun ls hl => ?_)
                have ex_16 : x_16 = t4_c23 + 1 := ex_16
                have e_16 : x_16.toInt = t4_c23.toInt + 1 := by rw [ex_16]; exact zi_add (rfl) (by decide) (by omega) (by omega)
                clear ex_16
                refine lv_goto (tgt := 23) hx hb dX8_meets_85 (by decide) ?_
                exact ih23 x_16 t2_c23 _ _ _ (show 0 ≤ x_16.toInt ∧ x_16.toInt ≤ 3 from by omega) (by omega) (hP.sub [0, 1] rfl) (hD.sub [0, 1] (by decide) rfl) hS (lv_sub hl [0, 3, 1, 4, 5] rfl)
              · have f_15 : x_10.toInt = x_14.toInt := zi_eq c_15
                refine lv_iload_n hx hb dX8_meets_65 rfl (lv_at hl 3 rfl) ?_
                refine lv_if_lt (tgt := 75) hx hb dX8_meets_66 (by decide) (fun c_17 => ?_) (fun c_17 => ?_)
                · have f_17 : t2_c23.toInt < 0 := zi_lt c_17
                  refine lv_iload hx hb dX8_meets_75 (lv_at hl 0 rfl) ?_
                  refine lv_goto (tgt := 81) hx hb dX8_meets_77 (by decide) ?_
                  refine lv_istore_n (lv' := [(2, .int x_10), (5, .int x_10), (4, .int t4_c23), (3, .int t3_c5), (0, .ref h), (1, .int k)]) hx hb dX8_meets_81 rfl hl (by decide) rfl (fun ls hl => ?_)
                  obtain ⟨x_18, ex_18⟩ : ∃ y : Int32, y = t4_c23 + Int32.ofInt 1 := ⟨_, rfl⟩
                  refine lv_iinc (v := x_18) (lv' := [(4, .int x_18), (2, .int x_10), (5, .int x_10), (3, .int t3_c5), (0, .ref h), (1, .int k)]) hx hb dX8_meets_82 hl (k := 2) rfl ex_18.symm (by decide) rfl (fun ls hl => ?_)
                  have ex_18 : x_18 = t4_c23 + 1 := ex_18
                  have e_18 : x_18.toInt = t4_c23.toInt + 1 := by rw [ex_18]; exact zi_add (rfl) (by decide) (by omega) (by omega)
                  clear ex_18
                  refine lv_goto (tgt := 23) hx hb dX8_meets_85 (by decide) ?_
                  exact ih23 x_18 x_10 _ _ _ (show 0 ≤ x_18.toInt ∧ x_18.toInt ≤ 3 from by omega) (by omega) (hP.sub [0, 1] rfl) (hD.sub [0, 1] (by decide) rfl) hS (lv_sub hl [0, 3, 1, 4, 5] rfl)
                · have f_17 : ¬ t2_c23.toInt < 0 := zi_nlt c_17
                  refine lv_iload hx hb dX8_meets_69 (lv_at hl 0 rfl) ?_
                  refine lv_iload_n hx hb dX8_meets_71 rfl (lv_at hl 3 rfl) ?_
                  refine lv_icmp_ge (tgt := 80) hx hb dX8_meets_72 (by decide) (fun c_19 => ?_) (fun c_19 => ?_)
                  · have f_19 : t2_c23.toInt ≤ x_10.toInt := zi_le c_19
                    refine lv_iload_n hx hb dX8_meets_80 rfl (lv_at hl 3 rfl) ?_
                    refine lv_istore_n (lv' := [(2, .int t2_c23), (5, .int x_10), (4, .int t4_c23), (3, .int t3_c5), (0, .ref h), (1, .int k)]) hx hb dX8_meets_81 rfl hl (by decide) rfl (fun ls hl => ?_)
                    obtain ⟨x_20, ex_20⟩ : ∃ y : Int32, y = t4_c23 + Int32.ofInt 1 := ⟨_, rfl⟩
                    refine lv_iinc (v := x_20) (lv' := [(4, .int x_20), (2, .int t2_c23), (5, .int x_10), (3, .int t3_c5), (0, .ref h), (1, .int k)]) hx hb dX8_meets_82 hl (k := 2) rfl ex_20.symm (by decide) rfl (fun ls hl => ?_)
                    have ex_20 : x_20 = t4_c23 + 1 := ex_20
                    have e_20 : x_20.toInt = t4_c23.toInt + 1 := by rw [ex_20]; exact zi_add (rfl) (by decide) (by omega) (by omega)
                    clear ex_20
                    refine lv_goto (tgt := 23) hx hb dX8_meets_85 (by decide) ?_
                    exact ih23 x_20 t2_c23 _ _ _ (show 0 ≤ x_20.toInt ∧ x_20.toInt ≤ 3 from by omega) (by omega) (hP.sub [0, 1] rfl) (hD.sub [0, 1] (by decide) rfl) hS (lv_sub hl [0, 3, 1, 4, 5] rfl)
                  · have f_19 : ¬ t2_c23.toInt ≤ x_10.toInt := zi_nle c_19
                    refine lv_iload hx hb dX8_meets_75 (lv_at hl 0 rfl) ?_
                    refine lv_goto (tgt := 81) hx hb dX8_meets_77 (by decide) ?_
                    refine lv_istore_n (lv' := [(2, .int x_10), (5, .int x_10), (4, .int t4_c23), (3, .int t3_c5), (0, .ref h), (1, .int k)]) hx hb dX8_meets_81 rfl hl (by decide) rfl (fun ls hl => ?_)
                    obtain ⟨x_21, ex_21⟩ : ∃ y : Int32, y = t4_c23 + Int32.ofInt 1 := ⟨_, rfl⟩
                    refine lv_iinc (v := x_21) (lv' := [(4, .int x_21), (2, .int x_10), (5, .int x_10), (3, .int t3_c5), (0, .ref h), (1, .int k)]) hx hb dX8_meets_82 hl (k := 2) rfl ex_21.symm (by decide) rfl (fun ls hl => ?_)
                    have ex_21 : x_21 = t4_c23 + 1 := ex_21
                    have e_21 : x_21.toInt = t4_c23.toInt + 1 := by rw [ex_21]; exact zi_add (rfl) (by decide) (by omega) (by omega)
                    clear ex_21
                    refine lv_goto (tgt := 23) hx hb dX8_meets_85 (by decide) ?_
                    exact ih23 x_21 x_10 _ _ _ (show 0 ≤ x_21.toInt ∧ x_21.toInt ≤ 3 from by omega) (by omega) (hP.sub [0, 1] rfl) (hD.sub [0, 1] (by decide) rfl) hS (lv_sub hl [0, 3, 1, 4, 5] rfl)
        exact hL23 (((3 - (0 : Int32).toInt).toNat) + 1) 0 t2_c5 _ _ _ (show 0 ≤ 0 ∧ 0 ≤ 3 from by omega) (Nat.lt_succ_self _) (hP.sub [0, 1] rfl) (hD.sub [0, 1] (by decide) rfl) hS (lv_sub hl [0, 1, 2, 3, 4] rfl)
  exact hL5 (((3 - (0 : Int32).toInt).toNat) + 1) 0 (-1000000) _ _ _ (show 0 ≤ 0 ∧ 0 ≤ 3 from by omega) (Nat.lt_succ_self _) (hP.sub [0, 1] rfl) (hD.sub [0, 1] (by decide) rfl) hS (lv_sub hl [0, 1, 2, 3] rfl)
set_option maxHeartbeats 4000000 in
set_option maxRecDepth 100000 in
theorem g_X8_meet (l : Launch) (D : va_G) (cI cB cQ : ClassId) (sz : Nat) (h : Nat) (sl : Nat) (zs : Nat) (ln : Nat) (ir : Nat) (tk : Nat) (tb : Nat) (tr : Nat) (fz : Nat) (na : Int32) (su : Int32) (le : Int32) (fu : Int32) (ap : Int32) (pp : Int32) (tc : Int32) (nm : Int32) (n : Int32) (k : Int32) (sf : Nat → Int32) (v0 : Int) (hsi : SI sf v0) : mi l yX8_meet wsX8_meet ({ frames := 5, cells := 0, slots := 0, locals := 122 }) D cI cB cQ [.ref h, .int n, .int k] sz [(h, .inr (7, [.ref sl, .int na, .ref zs, .ref ln, .ref ir, .ref tk, .int su, .int le, .ref tb, .int fu, .int ap, .int pp, .ref tr, .int tc, .ref fz, .int nm])), (sl, .inl (cI, 1653, .inl sf))] (fun (r : Int32) (u : (Nat → Int32)) => (SI u v0)) (fun u => [(h, .inr (7, [.ref sl, .int na, .ref zs, .ref ln, .ref ir, .ref tk, .int su, .int le, .ref tb, .int fu, .int ap, .int pp, .ref tr, .int tc, .ref fz, .int nm])), (sl, .inl (cI, 1653, .inl u))]) 0 0 := by
  refine wm_i (cc := cX8_meet) (maxL := 5) (ret := (some .int)) (by decide) rfl (Nat.le_of_ble_eq_true rfl) ?_
  intro p e s m below meth c A ls hx hb hr hml hown hts hlocks hin hP hK hD hN hA hl hS
  have hown : s.vm.findClass RX8 = some m.cls := hown
  have hl : lv_has ls 5 [(0, .ref h), (1, .int n), (2, .int k)] := hl
  change W p l e ({ frames := 5, cells := 0, slots := 0, locals := 122 }) s m ([.ref h, .int n, .int k] : List Value).toArray below meth c s.heap [] 0 0 (MQ below (va_Qi (fun (r : Int32) (u : (Nat → Int32)) => (SI u v0)) (fun u t => wb D A ((fun u => [(h, .inr (7, [.ref sl, .int na, .ref zs, .ref ln, .ref ir, .ref tk, .int su, .int le, .ref tb, .int fu, .int ap, .int pp, .ref tr, .int tc, .ref fz, .int nm])), (sl, .inl (cI, 1653, .inl u))]) u) t) A) ([.ref h, .int n, .int k] : List Value).toArray s 0 0 A) (F0 m 0 ls [])
  refine lv_aload_n hx hb dX8_meet_0 rfl (lv_at hl 0 rfl) ?_
  refine va_get (D := D) (ci := 7) (v := .ref sl) (C := RX8) (T := TX8) (N := 16) hx hb hts (fun _ h => List.mem_cons_of_mem _ (List.mem_append_right _ h)) hown hK hP 0 rfl rfl 0 (by decide) (hts (.fieldLink RX8 7 "WinterWalkModel" "slot" "[I") (List.mem_of_getElem? (i := 1) rfl)) (fun _ h9 => h9) rfl dX8_meet_1 ?_
  refine lv_iconst (v := 1) hx hb dX8_meet_4 (by decide) ?_
  refine va_iald hx hb hK hP 1 0 rfl rfl (zi_in (by decide) (by decide)) dX8_meet_5 ?_
  refine lv_topi (fun x_1 ex_1 => ?_)
  have f_1 : 0 ≤ x_1.toInt ∧ x_1.toInt ≤ 8 := by rw [ex_1]; exact si_v hsi (s := 0) (by decide) (by omega)
  have g_1 : x_1.toInt = v0 := by rw [ex_1]; exact hsi.2
  refine lv_if_ne (tgt := 12) hx hb dX8_meet_6 (by decide) (fun c_2 => ?_) (fun c_2 => ?_)
  · have f_2 : ¬ x_1.toInt = 0 := zi_ne c_2
    refine lv_iload_n hx hb dX8_meet_12 rfl (lv_at hl 1 rfl) ?_
    refine lv_i2l (v := (n.toInt64)) hx hb dX8_meet_13 rfl ?_
    refine lv_lconst (v := 1) hx hb dX8_meet_14 (by decide) ?_
    refine lv_ldc2 (v := 100) hx hb hown (hts (.constantLong RX8 160 (100)) (List.mem_of_getElem? (i := 3) rfl)) dX8_meet_15 ?_
    have k_3 := (g_X8_in l D cI cB cQ s.heap.size (n.toInt64) 1 100)
    refine wc_i (WC := []) (WR := [(h, .inr (7, [.ref sl, .int na, .ref zs, .ref ln, .ref ir, .ref tk, .int su, .int le, .ref tb, .int fu, .int ap, .int pp, .ref tr, .int tc, .ref fz, .int nm])), (sl, .inl (cI, 1653, .inl sf))]) (va_runS (As := [.long (n.toInt64), .long 1, .long 100]) (rest := []) ⟨hx, hb, hml, hown, hts⟩ k_3 (va_cwS 3 hts gX8_meet_X8_in rfl rfl rfl (by decide +kernel) ⟨Nat.le_of_ble_eq_true rfl, Nat.le_of_ble_eq_true rfl⟩) (wp_S hP hK hD hN [] (by decide) rfl) rfl rfl hl.1 rfl (lv_room (Nat.le_of_ble_eq_true rfl)) dX8_meet_18 ⟨Nat.le_of_ble_eq_true rfl, Nat.le_of_ble_eq_true rfl⟩) hP hD hS hA [] [0, 1] rfl rfl (by decide) (by decide) (fun r_3 u_3 H locs hw_3 hP hD hS => ?_)
    clear k_3
    have hP : va_P D kl [(h, .inr (7, [.ref sl, .int na, .ref zs, .ref ln, .ref ir, .ref tk, .int su, .int le, .ref tb, .int fu, .int ap, .int pp, .ref tr, .int tc, .ref fz, .int nm])), (sl, .inl (cI, 1653, .inl sf))] H := hP
    have hD : va_D A [(h, .inr (7, [.ref sl, .int na, .ref zs, .ref ln, .ref ir, .ref tk, .int su, .int le, .ref tb, .int fu, .int ap, .int pp, .ref tr, .int tc, .ref fz, .int nm])), (sl, .inl (cI, 1653, .inl sf))] := hD
    have c3_0 := hw_3
    rcases c3_0 with ⟨e_3, f_3⟩ | ⟨e_3, f_3⟩
    · subst e_3
      have f_3 : (1 : Int) ≤ n.toInt ∧ n.toInt ≤ (100 : Int) := by
        have h8 := f_3
        try simp only [zl_of] at h8
        exact h8
      refine lv_if_eq (tgt := 34) hx hb dX8_meet_21 (by decide) (fun c9 => absurd c9 (by decide)) (fun _ => ?_)
      refine lv_iload_n hx hb dX8_meet_24 rfl (lv_at hl 2 rfl) ?_
      refine lv_i2l (v := (k.toInt64)) hx hb dX8_meet_25 rfl ?_
      refine lv_lconst (v := 0) hx hb dX8_meet_26 (by decide) ?_
      refine lv_lconst (v := 1) hx hb dX8_meet_27 (by decide) ?_
      have k_4 := (g_X8_in l D cI cB cQ H.size (k.toInt64) 0 1)
      refine wc_i (WC := []) (WR := [(h, .inr (7, [.ref sl, .int na, .ref zs, .ref ln, .ref ir, .ref tk, .int su, .int le, .ref tb, .int fu, .int ap, .int pp, .ref tr, .int tc, .ref fz, .int nm])), (sl, .inl (cI, 1653, .inl sf))]) (va_runS (As := [.long (k.toInt64), .long 0, .long 1]) (rest := []) ⟨hx, hb, hml, hown, hts⟩ k_4 (va_cwS 3 hts gX8_meet_X8_in rfl rfl rfl (by decide +kernel) ⟨Nat.le_of_ble_eq_true rfl, Nat.le_of_ble_eq_true rfl⟩) (wp_S hP hK hD hN [] (by decide) rfl) rfl rfl hl.1 rfl (lv_room (Nat.le_of_ble_eq_true rfl)) dX8_meet_28 ⟨Nat.le_of_ble_eq_true rfl, Nat.le_of_ble_eq_true rfl⟩) hP hD hS hA [] [0, 1] rfl rfl (by decide) (by decide) (fun r_4 u_4 H locs hw_4 hP hD hS => ?_)
      clear k_4
      have hP : va_P D kl [(h, .inr (7, [.ref sl, .int na, .ref zs, .ref ln, .ref ir, .ref tk, .int su, .int le, .ref tb, .int fu, .int ap, .int pp, .ref tr, .int tc, .ref fz, .int nm])), (sl, .inl (cI, 1653, .inl sf))] H := hP
      have hD : va_D A [(h, .inr (7, [.ref sl, .int na, .ref zs, .ref ln, .ref ir, .ref tk, .int su, .int le, .ref tb, .int fu, .int ap, .int pp, .ref tr, .int tc, .ref fz, .int nm])), (sl, .inl (cI, 1653, .inl sf))] := hD
      have c4_0 := hw_4
      rcases c4_0 with ⟨e_4, f_4⟩ | ⟨e_4, f_4⟩
      · subst e_4
        have f_4 : (0 : Int) ≤ k.toInt ∧ k.toInt ≤ (1 : Int) := by
          have h8 := f_4
          try simp only [zl_of] at h8
          exact h8
        refine lv_if_ne (tgt := 37) hx hb dX8_meet_31 (by decide) (fun _ => ?_) (fun c9 => absurd c9 (by decide))
        refine lv_aload_n hx hb dX8_meet_37 rfl (lv_at hl 0 rfl) ?_
        refine lv_iconst (v := 0) hx hb dX8_meet_38 (by decide) ?_
        refine lv_bipush (v := 27) hx hb dX8_meet_39 (by decide) ?_
        have k_5 := (g_X8_copies l D cI cB cQ H.size h sl zs ln ir tk tb tr fz na su le fu ap pp tc nm 0 27 sf v0 hsi ⟨by decide, by decide⟩ ⟨by decide, by decide⟩)
        refine wc_v (WC := [(h, .inr (7, [.ref sl, .int na, .ref zs, .ref ln, .ref ir, .ref tk, .int su, .int le, .ref tb, .int fu, .int ap, .int pp, .ref tr, .int tc, .ref fz, .int nm])), (sl, .inl (cI, 1653, .inl sf))]) (WR := []) (va_runV (As := [.int 0, .int 27]) (rest := []) ⟨hx, hb, hml, hown, hts⟩ k_5 (cwV 2 hts gX8_meet_X8_copies rfl rfl rfl (by decide +kernel) ⟨Nat.le_of_ble_eq_true rfl, Nat.le_of_ble_eq_true rfl⟩) (wp_V hP hK hD hN [0, 1] (by decide) rfl (ci := 7) rfl rfl) rfl rfl hl.1 rfl (lv_room (Nat.le_of_ble_eq_true rfl)) dX8_meet_41 ⟨Nat.le_of_ble_eq_true rfl, Nat.le_of_ble_eq_true rfl⟩) hP hD hS hA [0, 1] [] rfl rfl (by decide) (by decide) (fun u_5 H locs hw_5 hP hD hS => ?_)
        clear k_5
        have hP : va_P D kl [(h, .inr (7, [.ref sl, .int na, .ref zs, .ref ln, .ref ir, .ref tk, .int su, .int le, .ref tb, .int fu, .int ap, .int pp, .ref tr, .int tc, .ref fz, .int nm])), (sl, .inl (cI, 1653, .inl u_5))] H := hP
        have hD : va_D A [(h, .inr (7, [.ref sl, .int na, .ref zs, .ref ln, .ref ir, .ref tk, .int su, .int le, .ref tb, .int fu, .int ap, .int pp, .ref tr, .int tc, .ref fz, .int nm])), (sl, .inl (cI, 1653, .inl u_5))] := hD
        have c5_0 := hw_5
        have c5_0 : SI u_5 v0 := c5_0
        refine lv_iconst (v := 0) hx hb dX8_meet_44 (by decide) ?_
        refine lv_istore_n (lv' := [(3, .int 0), (0, .ref h), (1, .int n), (2, .int k)]) hx hb dX8_meet_45 rfl hl (by decide) rfl (fun ls hl => ?_)
        have hL46 : ∀ (nf : Nat) (t3_c46 : Int32) (g0_c46 : Nat → Int32) (H : Heap) (locs : List Loc) (ls : Array Slot), (0 ≤ t3_c46.toInt ∧ t3_c46.toInt ≤ 100) → (SI g0_c46 v0) → (n.toInt - t3_c46.toInt).toNat < nf → va_P D kl [(h, .inr (7, [.ref sl, .int na, .ref zs, .ref ln, .ref ir, .ref tk, .int su, .int le, .ref tb, .int fu, .int ap, .int pp, .ref tr, .int tc, .ref fz, .int nm])), (sl, .inl (cI, 1653, .inl g0_c46))] H → va_D A [(h, .inr (7, [.ref sl, .int na, .ref zs, .ref ln, .ref ir, .ref tk, .int su, .int le, .ref tb, .int fu, .int ap, .int pp, .ref tr, .int tc, .ref fz, .int nm])), (sl, .inl (cI, 1653, .inl g0_c46))] → va_S A s.heap H locs → lv_has ls 5 [(3, .int t3_c46), (0, .ref h), (1, .int n), (2, .int k)] → W p l e ({ frames := 5, cells := 0, slots := 0, locals := 122 }) s m ([.ref h, .int n, .int k] : List Value).toArray below meth c H locs 0 0 (MQ below (va_Qi (fun (r : Int32) (u : (Nat → Int32)) => (SI u v0)) (fun u t => wb D A ((fun u => [(h, .inr (7, [.ref sl, .int na, .ref zs, .ref ln, .ref ir, .ref tk, .int su, .int le, .ref tb, .int fu, .int ap, .int pp, .ref tr, .int tc, .ref fz, .int nm])), (sl, .inl (cI, 1653, .inl u))]) u) t) A) ([.ref h, .int n, .int k] : List Value).toArray s 0 0 A) (F0 m 46 ls []) := by
          intro nf
          induction nf with
          | zero =>
            intro t3_c46 g0_c46 H locs ls i_t3_c46 ha_g0_c46 hm
            exact absurd hm (Nat.not_lt_zero _)
          | succ nf ih46 =>
            intro t3_c46 g0_c46 H locs ls i_t3_c46 ha_g0_c46 hm46 hP hD hS hl
            refine lv_iload_n hx hb dX8_meet_46 rfl (lv_at hl 0 rfl) ?_
            refine lv_iload_n hx hb dX8_meet_47 rfl (lv_at hl 2 rfl) ?_
            refine lv_icmp_ge (tgt := 88) hx hb dX8_meet_48 (by decide) (fun c_6 => ?_) (fun c_6 => ?_)
            · have f_6 : n.toInt ≤ t3_c46.toInt := zi_le c_6
              refine lv_ldc (v := (-1000000)) hx hb hown (hts (.constant RX8 99 (-1000000)) (List.mem_of_getElem? (i := 5) rfl)) dX8_meet_88 ?_
              exact wr_i (v := (-1000000)) hx hb hr hlocks hS g0_c46 (by exact ha_g0_c46) (hP.sub [0, 1] rfl) (hD.sub [0, 1] (by decide) rfl) dX8_meet_90
            · have f_6 : ¬ n.toInt ≤ t3_c46.toInt := zi_nle c_6
              refine lv_aload_n hx hb dX8_meet_51 rfl (lv_at hl 1 rfl) ?_
              refine lv_bipush (v := 27) hx hb dX8_meet_52 (by decide) ?_
              refine lv_iconst (v := (-1)) hx hb dX8_meet_54 (by decide) ?_
              have k_7 := (g_X8_day l D cI cB cQ H.size h sl zs ln ir tk tb tr fz na su le fu ap pp tc nm 27 (-1) g0_c46 v0 ha_g0_c46 ⟨by decide, by decide⟩)
              refine wc_v (WC := [(h, .inr (7, [.ref sl, .int na, .ref zs, .ref ln, .ref ir, .ref tk, .int su, .int le, .ref tb, .int fu, .int ap, .int pp, .ref tr, .int tc, .ref fz, .int nm])), (sl, .inl (cI, 1653, .inl g0_c46))]) (WR := []) (va_runV (As := [.int 27, .int (-1)]) (rest := []) ⟨hx, hb, hml, hown, hts⟩ k_7 (cwV 2 hts gX8_meet_X8_day rfl rfl rfl (by decide +kernel) ⟨Nat.le_of_ble_eq_true rfl, Nat.le_of_ble_eq_true rfl⟩) (wp_V hP hK hD hN [0, 1] (by decide) rfl (ci := 7) rfl rfl) rfl rfl hl.1 rfl (lv_room (Nat.le_of_ble_eq_true rfl)) dX8_meet_55 ⟨Nat.le_of_ble_eq_true rfl, Nat.le_of_ble_eq_true rfl⟩) hP hD hS hA [0, 1] [] rfl rfl (by decide) (by decide) (fun u_7 H locs hw_7 hP hD hS => ?_)
              clear k_7
              have hP : va_P D kl [(h, .inr (7, [.ref sl, .int na, .ref zs, .ref ln, .ref ir, .ref tk, .int su, .int le, .ref tb, .int fu, .int ap, .int pp, .ref tr, .int tc, .ref fz, .int nm])), (sl, .inl (cI, 1653, .inl u_7))] H := hP
              have hD : va_D A [(h, .inr (7, [.ref sl, .int na, .ref zs, .ref ln, .ref ir, .ref tk, .int su, .int le, .ref tb, .int fu, .int ap, .int pp, .ref tr, .int tc, .ref fz, .int nm])), (sl, .inl (cI, 1653, .inl u_7))] := hD
              have c7_0 := hw_7
              have c7_0 : SI u_7 v0 := c7_0
              refine lv_aload_n hx hb dX8_meet_58 rfl (lv_at hl 1 rfl) ?_
              refine lv_bipush (v := 27) hx hb dX8_meet_59 (by decide) ?_
              have k_8 := (g_X8_meets l D cI cB cQ H.size h sl zs ln ir tk tb tr fz na su le fu ap pp tc nm 27 u_7 v0 c7_0 ⟨by decide, by decide⟩)
              refine wc_i (WC := [(h, .inr (7, [.ref sl, .int na, .ref zs, .ref ln, .ref ir, .ref tk, .int su, .int le, .ref tb, .int fu, .int ap, .int pp, .ref tr, .int tc, .ref fz, .int nm])), (sl, .inl (cI, 1653, .inl u_7))]) (WR := []) (va_runV (As := [.int 27]) (rest := []) ⟨hx, hb, hml, hown, hts⟩ k_8 (cwV 1 hts gX8_meet_X8_meets rfl rfl rfl (by decide +kernel) ⟨Nat.le_of_ble_eq_true rfl, Nat.le_of_ble_eq_true rfl⟩) (wp_V hP hK hD hN [0, 1] (by decide) rfl (ci := 7) rfl rfl) rfl rfl hl.1 rfl (lv_room (Nat.le_of_ble_eq_true rfl)) dX8_meet_61 ⟨Nat.le_of_ble_eq_true rfl, Nat.le_of_ble_eq_true rfl⟩) hP hD hS hA [0, 1] [] rfl rfl (by decide) (by decide) (fun r_8 u_8 H locs hw_8 hP hD hS => ?_)
              clear k_8
              have hP : va_P D kl [(h, .inr (7, [.ref sl, .int na, .ref zs, .ref ln, .ref ir, .ref tk, .int su, .int le, .ref tb, .int fu, .int ap, .int pp, .ref tr, .int tc, .ref fz, .int nm])), (sl, .inl (cI, 1653, .inl u_7))] H := hP
              have hD : va_D A [(h, .inr (7, [.ref sl, .int na, .ref zs, .ref ln, .ref ir, .ref tk, .int su, .int le, .ref tb, .int fu, .int ap, .int pp, .ref tr, .int tc, .ref fz, .int nm])), (sl, .inl (cI, 1653, .inl u_7))] := hD
              clear hw_8
              refine lv_istore (lv' := [(4, .int r_8), (3, .int t3_c46), (0, .ref h), (1, .int n), (2, .int k)]) hx hb dX8_meet_64 hl (by decide) rfl (fun ls hl => ?_)
              refine lv_iload hx hb dX8_meet_66 (lv_at hl 0 rfl) ?_
              refine lv_if_lt (tgt := 82) hx hb dX8_meet_68 (by decide) (fun c_9 => ?_) (fun c_9 => ?_)
              · have f_9 : r_8.toInt < 0 := zi_lt c_9
                obtain ⟨x_10, ex_10⟩ : ∃ y : Int32, y = t3_c46 + Int32.ofInt 1 := ⟨_, rfl⟩
                refine lv_iinc (v := x_10) (lv' := [(3, .int x_10), (4, .int r_8), (0, .ref h), (1, .int n), (2, .int k)]) hx hb dX8_meet_82 hl (k := 1) rfl ex_10.symm (by decide) rfl (fun ls hl => ?_)
                have ex_10 : x_10 = t3_c46 + 1 := ex_10
                have e_10 : x_10.toInt = t3_c46.toInt + 1 := by rw [ex_10]; exact zi_add (rfl) (by decide) (by omega) (by omega)
                clear ex_10
                refine lv_goto (tgt := 46) hx hb dX8_meet_85 (by decide) ?_
                exact ih46 x_10 u_7 _ _ _ (show 0 ≤ x_10.toInt ∧ x_10.toInt ≤ 100 from by omega) c7_0 (by omega) (hP.sub [0, 1] rfl) (hD.sub [0, 1] (by decide) rfl) hS (lv_sub hl [0, 2, 3, 4] rfl)
              · have f_9 : ¬ r_8.toInt < 0 := zi_nlt c_9
                refine lv_iload_n hx hb dX8_meet_71 rfl (lv_at hl 4 rfl) ?_
                refine lv_if_ne (tgt := 79) hx hb dX8_meet_72 (by decide) (fun c_11 => ?_) (fun c_11 => ?_)
                · have f_11 : ¬ k.toInt = 0 := zi_ne c_11
                  refine lv_iload hx hb dX8_meet_79 (lv_at hl 0 rfl) ?_
                  exact wr_i (v := r_8) hx hb hr hlocks hS u_7 (by exact c7_0) (hP.sub [0, 1] rfl) (hD.sub [0, 1] (by decide) rfl) dX8_meet_81
                · have f_11 : k.toInt = 0 := zi_eq c_11
                  refine lv_iload_n hx hb dX8_meet_75 rfl (lv_at hl 1 rfl) ?_
                  refine lv_goto (tgt := 81) hx hb dX8_meet_76 (by decide) ?_
                  exact wr_i (v := t3_c46) hx hb hr hlocks hS u_7 (by exact c7_0) (hP.sub [0, 1] rfl) (hD.sub [0, 1] (by decide) rfl) dX8_meet_81
        exact hL46 (((n.toInt - (0 : Int32).toInt).toNat) + 1) 0 u_5 _ _ _ (show 0 ≤ 0 ∧ 0 ≤ 100 from by omega) c5_0 (Nat.lt_succ_self _) (hP.sub [0, 1] rfl) (hD.sub [0, 1] (by decide) rfl) hS (lv_sub hl [0, 1, 2, 3] rfl)
      · subst e_4
        have f_4 : ¬ ((0 : Int) ≤ k.toInt ∧ k.toInt ≤ (1 : Int)) := by
          have h8 := f_4
          try simp only [zl_of] at h8
          exact h8
        refine lv_if_ne (tgt := 37) hx hb dX8_meet_31 (by decide) (fun c9 => absurd (by decide) c9) (fun _ => ?_)
        refine lv_ldc (v := (-1000001)) hx hb hown (hts (.constant RX8 48 (-1000001)) (List.mem_of_getElem? (i := 4) rfl)) dX8_meet_34 ?_
        exact wr_i (v := (-1000001)) hx hb hr hlocks hS sf (by exact hsi) (hP.sub [0, 1] rfl) (hD.sub [0, 1] (by decide) rfl) dX8_meet_36
    · subst e_3
      have f_3 : ¬ ((1 : Int) ≤ n.toInt ∧ n.toInt ≤ (100 : Int)) := by
        have h8 := f_3
        try simp only [zl_of] at h8
        exact h8
      refine lv_if_eq (tgt := 34) hx hb dX8_meet_21 (by decide) (fun _ => ?_) (fun c9 => absurd (by decide) c9)
      refine lv_ldc (v := (-1000001)) hx hb hown (hts (.constant RX8 48 (-1000001)) (List.mem_of_getElem? (i := 4) rfl)) dX8_meet_34 ?_
      exact wr_i (v := (-1000001)) hx hb hr hlocks hS sf (by exact hsi) (hP.sub [0, 1] rfl) (hD.sub [0, 1] (by decide) rfl) dX8_meet_36
  · have f_2 : x_1.toInt = 0 := zi_eq c_2
    refine lv_ldc (v := (-1000002)) hx hb hown (hts (.constant RX8 121 (-1000002)) (List.mem_of_getElem? (i := 2) rfl)) dX8_meet_9 ?_
    exact wr_i (v := (-1000002)) hx hb hr hlocks hS sf (by exact hsi) (hP.sub [0, 1] rfl) (hD.sub [0, 1] (by decide) rfl) dX8_meet_11
set_option maxHeartbeats 4000000 in
set_option maxRecDepth 100000 in
theorem g_X8_alone (l : Launch) (D : va_G) (cI cB cQ : ClassId) (sz : Nat) (h : Nat) (sl : Nat) (zs : Nat) (ln : Nat) (ir : Nat) (tk : Nat) (tb : Nat) (tr : Nat) (fz : Nat) (na : Int32) (su : Int32) (le : Int32) (fu : Int32) (ap : Int32) (pp : Int32) (tc : Int32) (nm : Int32) (v : Int32) (k : Int32) (sf : Nat → Int32) (v0 : Int) (hsi : SI sf v0) (h_v : 0 ≤ v.toInt ∧ v.toInt ≤ 2) (h_k : 0 ≤ k.toInt ∧ k.toInt ≤ 7) : mv l yX8_alone wsX8_alone ({ frames := 1, cells := 0, slots := 0, locals := 23 }) D cI cB cQ [.ref h, .int v, .int k] sz [(h, .inr (7, [.ref sl, .int na, .ref zs, .ref ln, .ref ir, .ref tk, .int su, .int le, .ref tb, .int fu, .int ap, .int pp, .ref tr, .int tc, .ref fz, .int nm])), (sl, .inl (cI, 1653, .inl sf))] (fun (u : (Nat → Int32)) => (SI u v0)) (fun u => [(h, .inr (7, [.ref sl, .int na, .ref zs, .ref ln, .ref ir, .ref tk, .int su, .int le, .ref tb, .int fu, .int ap, .int pp, .ref tr, .int tc, .ref fz, .int nm])), (sl, .inl (cI, 1653, .inl u))]) 0 0 := by
  refine wm_v (cc := cX8_alone) (maxL := 4) (ret := none) (by decide) rfl (Nat.le_of_ble_eq_true rfl) ?_
  intro p e s m below meth c A ls hx hb hr hml hown hts hlocks hin hP hK hD hN hA hl hS
  have hown : s.vm.findClass RX8 = some m.cls := hown
  have hl : lv_has ls 4 [(0, .ref h), (1, .int v), (2, .int k)] := hl
  change W p l e ({ frames := 1, cells := 0, slots := 0, locals := 23 }) s m ([.ref h, .int v, .int k] : List Value).toArray below meth c s.heap [] 0 0 (MQ below (va_Qv (fun (u : (Nat → Int32)) => (SI u v0)) (fun u t => wb D A ((fun u => [(h, .inr (7, [.ref sl, .int na, .ref zs, .ref ln, .ref ir, .ref tk, .int su, .int le, .ref tb, .int fu, .int ap, .int pp, .ref tr, .int tc, .ref fz, .int nm])), (sl, .inl (cI, 1653, .inl u))]) u) t) A) ([.ref h, .int v, .int k] : List Value).toArray s 0 0 A) (F0 m 0 ls [])
  refine lv_aload_n hx hb dX8_alone_0 rfl (lv_at hl 0 rfl) ?_
  refine lv_iconst (v := 0) hx hb dX8_alone_1 (by decide) ?_
  refine lv_bipush (v := 27) hx hb dX8_alone_2 (by decide) ?_
  have k_1 := (g_X8_copies l D cI cB cQ s.heap.size h sl zs ln ir tk tb tr fz na su le fu ap pp tc nm 0 27 sf v0 hsi ⟨by decide, by decide⟩ ⟨by decide, by decide⟩)
  refine wc_v (WC := [(h, .inr (7, [.ref sl, .int na, .ref zs, .ref ln, .ref ir, .ref tk, .int su, .int le, .ref tb, .int fu, .int ap, .int pp, .ref tr, .int tc, .ref fz, .int nm])), (sl, .inl (cI, 1653, .inl sf))]) (WR := []) (va_runV (As := [.int 0, .int 27]) (rest := []) ⟨hx, hb, hml, hown, hts⟩ k_1 (cwV 2 hts gX8_alone_X8_copies rfl rfl rfl (by decide +kernel) ⟨Nat.le_of_ble_eq_true rfl, Nat.le_of_ble_eq_true rfl⟩) (wp_V hP hK hD hN [0, 1] (by decide) rfl (ci := 7) rfl rfl) rfl rfl hl.1 rfl (lv_room (Nat.le_of_ble_eq_true rfl)) dX8_alone_4 ⟨Nat.le_of_ble_eq_true rfl, Nat.le_of_ble_eq_true rfl⟩) hP hD hS hA [0, 1] [] rfl rfl (by decide) (by decide) (fun u_1 H locs hw_1 hP hD hS => ?_)
  clear k_1
  have hP : va_P D kl [(h, .inr (7, [.ref sl, .int na, .ref zs, .ref ln, .ref ir, .ref tk, .int su, .int le, .ref tb, .int fu, .int ap, .int pp, .ref tr, .int tc, .ref fz, .int nm])), (sl, .inl (cI, 1653, .inl u_1))] H := hP
  have hD : va_D A [(h, .inr (7, [.ref sl, .int na, .ref zs, .ref ln, .ref ir, .ref tk, .int su, .int le, .ref tb, .int fu, .int ap, .int pp, .ref tr, .int tc, .ref fz, .int nm])), (sl, .inl (cI, 1653, .inl u_1))] := hD
  have c1_0 := hw_1
  have c1_0 : SI u_1 v0 := c1_0
  refine lv_aload_n hx hb dX8_alone_7 rfl (lv_at hl 0 rfl) ?_
  refine va_get (D := D) (ci := 7) (v := .ref sl) (C := RX8) (T := TX8) (N := 16) hx hb hts (fun _ h => List.mem_cons_of_mem _ (List.mem_append_right _ h)) hown hK hP 0 rfl rfl 0 (by decide) (hts (.fieldLink RX8 7 "WinterWalkModel" "slot" "[I") (List.mem_of_getElem? (i := 1) rfl)) (fun _ h9 => h9) rfl dX8_alone_8 ?_
  refine lv_sipush (v := 1587) hx hb dX8_alone_11 (by decide) ?_
  refine lv_iload_n hx hb dX8_alone_14 rfl (lv_at hl 1 rfl) ?_
  refine lv_iadd hx hb dX8_alone_15 ?_
  refine lv_topi (fun x_2 ex_2 => ?_)
  have e_2 : x_2.toInt = 1587 + v.toInt := by rw [ex_2]; exact zi_add (by decide) (rfl) (by omega) (by omega)
  clear ex_2
  refine lv_iload_n hx hb dX8_alone_16 rfl (lv_at hl 2 rfl) ?_
  refine va_iast hx hb hK hP hD hS 1 0 rfl rfl (zi_in (by omega) (by omega)) dX8_alone_17 (fun H locs hP hD hS => ?_)
  have hP : va_P D kl [(h, .inr (7, [.ref sl, .int na, .ref zs, .ref ln, .ref ir, .ref tk, .int su, .int le, .ref tb, .int fu, .int ap, .int pp, .ref tr, .int tc, .ref fz, .int nm])), (sl, .inl (cI, 1653, .inl (upd u_1 (x_2 : Int32).toNatClampNeg k)))] H := hP
  have hD : va_D A [(h, .inr (7, [.ref sl, .int na, .ref zs, .ref ln, .ref ir, .ref tk, .int su, .int le, .ref tb, .int fu, .int ap, .int pp, .ref tr, .int tc, .ref fz, .int nm])), (sl, .inl (cI, 1653, .inl (upd u_1 (x_2 : Int32).toNatClampNeg k)))] := hD
  have ha_3 : SI (upd u_1 (x_2 : Int32).toNatClampNeg k) v0 := si_up c1_0 (by omega) (fun s0 a0 b0 e0 => by omega) (fun s0 a0 b0 e0 => by omega) (fun s0 k0 a0 b0 c0 d0 e0 => by omega) (by omega)
  refine lv_aload_n hx hb dX8_alone_18 rfl (lv_at hl 0 rfl) ?_
  refine va_get (D := D) (ci := 7) (v := .ref sl) (C := RX8) (T := TX8) (N := 16) hx hb hts (fun _ h => List.mem_cons_of_mem _ (List.mem_append_right _ h)) hown hK hP 0 rfl rfl 0 (by decide) (hts (.fieldLink RX8 7 "WinterWalkModel" "slot" "[I") (List.mem_of_getElem? (i := 1) rfl)) (fun _ h9 => h9) rfl dX8_alone_19 ?_
  refine lv_sipush (v := 1590) hx hb dX8_alone_22 (by decide) ?_
  refine lv_iload_n hx hb dX8_alone_25 rfl (lv_at hl 1 rfl) ?_
  refine lv_iadd hx hb dX8_alone_26 ?_
  refine lv_topi (fun x_4 ex_4 => ?_)
  have e_4 : x_4.toInt = 1590 + v.toInt := by rw [ex_4]; exact zi_add (by decide) (rfl) (by omega) (by omega)
  clear ex_4
  refine lv_ldc (v := (-1000000)) hx hb hown (hts (.constant RX8 99 (-1000000)) (List.mem_of_getElem? (i := 2) rfl)) dX8_alone_27 ?_
  refine va_iast hx hb hK hP hD hS 1 0 rfl rfl (zi_in (by omega) (by omega)) dX8_alone_29 (fun H locs hP hD hS => ?_)
  have hP : va_P D kl [(h, .inr (7, [.ref sl, .int na, .ref zs, .ref ln, .ref ir, .ref tk, .int su, .int le, .ref tb, .int fu, .int ap, .int pp, .ref tr, .int tc, .ref fz, .int nm])), (sl, .inl (cI, 1653, .inl (upd (upd u_1 (x_2 : Int32).toNatClampNeg k) (x_4 : Int32).toNatClampNeg (-1000000))))] H := hP
  have hD : va_D A [(h, .inr (7, [.ref sl, .int na, .ref zs, .ref ln, .ref ir, .ref tk, .int su, .int le, .ref tb, .int fu, .int ap, .int pp, .ref tr, .int tc, .ref fz, .int nm])), (sl, .inl (cI, 1653, .inl (upd (upd u_1 (x_2 : Int32).toNatClampNeg k) (x_4 : Int32).toNatClampNeg (-1000000))))] := hD
  have ha_5 : SI (upd (upd u_1 (x_2 : Int32).toNatClampNeg k) (x_4 : Int32).toNatClampNeg (-1000000)) v0 := si_up ha_3 (by omega) (fun s0 a0 b0 e0 => by first | decide | omega) (fun s0 a0 b0 e0 => by first | decide | omega) (fun s0 k0 a0 b0 c0 d0 e0 => by first | decide | omega) (by omega)
  refine lv_iconst (v := 0) hx hb dX8_alone_30 (by decide) ?_
  refine lv_istore_n (lv' := [(3, .int 0), (0, .ref h), (1, .int v), (2, .int k)]) hx hb dX8_alone_31 rfl hl (by decide) rfl (fun ls hl => ?_)
  have hL32 : ∀ (nf : Nat) (t3_c32 : Int32) (g0_c32 : Nat → Int32) (H : Heap) (locs : List Loc) (ls : Array Slot), (0 ≤ t3_c32.toInt ∧ t3_c32.toInt ≤ 8) → (SI g0_c32 v0) → (8 - t3_c32.toInt).toNat < nf → va_P D kl [(h, .inr (7, [.ref sl, .int na, .ref zs, .ref ln, .ref ir, .ref tk, .int su, .int le, .ref tb, .int fu, .int ap, .int pp, .ref tr, .int tc, .ref fz, .int nm])), (sl, .inl (cI, 1653, .inl g0_c32))] H → va_D A [(h, .inr (7, [.ref sl, .int na, .ref zs, .ref ln, .ref ir, .ref tk, .int su, .int le, .ref tb, .int fu, .int ap, .int pp, .ref tr, .int tc, .ref fz, .int nm])), (sl, .inl (cI, 1653, .inl g0_c32))] → va_S A s.heap H locs → lv_has ls 4 [(3, .int t3_c32), (0, .ref h), (1, .int v), (2, .int k)] → W p l e ({ frames := 1, cells := 0, slots := 0, locals := 23 }) s m ([.ref h, .int v, .int k] : List Value).toArray below meth c H locs 0 0 (MQ below (va_Qv (fun (u : (Nat → Int32)) => (SI u v0)) (fun u t => wb D A ((fun u => [(h, .inr (7, [.ref sl, .int na, .ref zs, .ref ln, .ref ir, .ref tk, .int su, .int le, .ref tb, .int fu, .int ap, .int pp, .ref tr, .int tc, .ref fz, .int nm])), (sl, .inl (cI, 1653, .inl u))]) u) t) A) ([.ref h, .int v, .int k] : List Value).toArray s 0 0 A) (F0 m 32 ls []) := by
    intro nf
    induction nf with
    | zero =>
      intro t3_c32 g0_c32 H locs ls i_t3_c32 ha_g0_c32 hm
      exact absurd hm (Nat.not_lt_zero _)
    | succ nf ih32 =>
      intro t3_c32 g0_c32 H locs ls i_t3_c32 ha_g0_c32 hm32 hP hD hS hl
      refine lv_iload_n hx hb dX8_alone_32 rfl (lv_at hl 0 rfl) ?_
      refine lv_bipush (v := 8) hx hb dX8_alone_33 (by decide) ?_
      refine lv_icmp_ge (tgt := 55) hx hb dX8_alone_35 (by decide) (fun c_6 => ?_) (fun c_6 => ?_)
      · have f_6 : 8 ≤ t3_c32.toInt := zi_le c_6
        exact wr_v hx hb hr hlocks hS g0_c32 (by exact ha_g0_c32) (hP.sub [0, 1] rfl) (hD.sub [0, 1] (by decide) rfl) dX8_alone_55
      · have f_6 : ¬ 8 ≤ t3_c32.toInt := zi_nle c_6
        refine lv_aload_n hx hb dX8_alone_38 rfl (lv_at hl 1 rfl) ?_
        refine va_get (D := D) (ci := 7) (v := .ref sl) (C := RX8) (T := TX8) (N := 16) hx hb hts (fun _ h => List.mem_cons_of_mem _ (List.mem_append_right _ h)) hown hK hP 0 rfl rfl 0 (by decide) (hts (.fieldLink RX8 7 "WinterWalkModel" "slot" "[I") (List.mem_of_getElem? (i := 1) rfl)) (fun _ h9 => h9) rfl dX8_alone_39 ?_
        refine lv_sipush (v := 1571) hx hb dX8_alone_42 (by decide) ?_
        refine lv_iload_n hx hb dX8_alone_45 rfl (lv_at hl 0 rfl) ?_
        refine lv_iadd hx hb dX8_alone_46 ?_
        refine lv_topi (fun x_7 ex_7 => ?_)
        have e_7 : x_7.toInt = 1571 + t3_c32.toInt := by rw [ex_7]; exact zi_add (by decide) (rfl) (by omega) (by omega)
        clear ex_7
        refine lv_iconst (v := 0) hx hb dX8_alone_47 (by decide) ?_
        refine va_iast hx hb hK hP hD hS 1 0 rfl rfl (zi_in (by omega) (by omega)) dX8_alone_48 (fun H locs hP hD hS => ?_)
        have hP : va_P D kl [(h, .inr (7, [.ref sl, .int na, .ref zs, .ref ln, .ref ir, .ref tk, .int su, .int le, .ref tb, .int fu, .int ap, .int pp, .ref tr, .int tc, .ref fz, .int nm])), (sl, .inl (cI, 1653, .inl (upd g0_c32 (x_7 : Int32).toNatClampNeg 0)))] H := hP
        have hD : va_D A [(h, .inr (7, [.ref sl, .int na, .ref zs, .ref ln, .ref ir, .ref tk, .int su, .int le, .ref tb, .int fu, .int ap, .int pp, .ref tr, .int tc, .ref fz, .int nm])), (sl, .inl (cI, 1653, .inl (upd g0_c32 (x_7 : Int32).toNatClampNeg 0)))] := hD
        have ha_8 : SI (upd g0_c32 (x_7 : Int32).toNatClampNeg 0) v0 := si_up ha_g0_c32 (by omega) (fun s0 a0 b0 e0 => by first | decide | omega) (fun s0 a0 b0 e0 => by first | decide | omega) (fun s0 k0 a0 b0 c0 d0 e0 => by first | decide | omega) (by omega)
        obtain ⟨x_9, ex_9⟩ : ∃ y : Int32, y = t3_c32 + Int32.ofInt 1 := ⟨_, rfl⟩
        refine lv_iinc (v := x_9) (lv' := [(3, .int x_9), (0, .ref h), (1, .int v), (2, .int k)]) hx hb dX8_alone_49 hl (k := 0) rfl ex_9.symm (by decide) rfl (fun ls hl => ?_)
        have ex_9 : x_9 = t3_c32 + 1 := ex_9
        have e_9 : x_9.toInt = t3_c32.toInt + 1 := by rw [ex_9]; exact zi_add (rfl) (by decide) (by omega) (by omega)
        clear ex_9
        refine lv_goto (tgt := 32) hx hb dX8_alone_52 (by decide) ?_
        exact ih32 x_9 (upd g0_c32 (x_7 : Int32).toNatClampNeg 0) _ _ _ (show 0 ≤ x_9.toInt ∧ x_9.toInt ≤ 8 from by omega) ha_8 (by omega) (hP.sub [0, 1] rfl) (hD.sub [0, 1] (by decide) rfl) hS (lv_sub hl [0, 1, 2, 3] rfl)
  exact hL32 (((8 - (0 : Int32).toInt).toNat) + 1) 0 (upd (upd u_1 (x_2 : Int32).toNatClampNeg k) (x_4 : Int32).toNatClampNeg (-1000000)) _ _ _ (show 0 ≤ 0 ∧ 0 ≤ 8 from by omega) ha_5 (Nat.lt_succ_self _) (hP.sub [0, 1] rfl) (hD.sub [0, 1] (by decide) rfl) hS (lv_sub hl [0, 1, 2, 3] rfl)
set_option maxHeartbeats 4000000 in
set_option maxRecDepth 100000 in
theorem g_X8_slept (l : Launch) (D : va_G) (cI cB cQ : ClassId) (sz : Nat) (h : Nat) (sl : Nat) (zs : Nat) (ln : Nat) (ir : Nat) (tk : Nat) (tb : Nat) (tr : Nat) (fz : Nat) (na : Int32) (su : Int32) (le : Int32) (fu : Int32) (ap : Int32) (pp : Int32) (tc : Int32) (nm : Int32) (v : Int32) (a : Int32) (i : Int32) (n : Int32) (k : Int32) (sf : Nat → Int32) (zf : Nat → Int32) (irf : Nat → Int32) (v0 : Int) (hsi : SI sf v0) (hz : ∀ j, j < 8 → (-1) ≤ (zf j).toInt ∧ (zf j).toInt ≤ 40) : mi l yX8_slept wsX8_slept ({ frames := 5, cells := 0, slots := 0, locals := 122 }) D cI cB cQ [.ref h, .int v, .int a, .int i, .int n, .int k] sz [(h, .inr (7, [.ref sl, .int na, .ref zs, .ref ln, .ref ir, .ref tk, .int su, .int le, .ref tb, .int fu, .int ap, .int pp, .ref tr, .int tc, .ref fz, .int nm])), (sl, .inl (cI, 1653, .inl sf)), (zs, .inl (cI, 8, .inl zf)), (ir, .inl (cI, 320, .inl irf))] (fun (r : Int32) (u : (Nat → Int32) × Int32) => (SI u.1 v0)) (fun u => [(h, .inr (7, [.ref sl, .int na, .ref zs, .ref ln, .ref ir, .ref tk, .int u.2, .int le, .ref tb, .int fu, .int ap, .int pp, .ref tr, .int tc, .ref fz, .int nm])), (sl, .inl (cI, 1653, .inl u.1)), (zs, .inl (cI, 8, .inl zf)), (ir, .inl (cI, 320, .inl irf))]) 0 0 := by
  refine wm_i (cc := cX8_slept) (maxL := 12) (ret := (some .int)) (by decide) rfl (Nat.le_of_ble_eq_true rfl) ?_
  intro p e s m below meth c A ls hx hb hr hml hown hts hlocks hin hP hK hD hN hA hl hS
  have hown : s.vm.findClass RX8 = some m.cls := hown
  have hl : lv_has ls 12 [(0, .ref h), (1, .int v), (2, .int a), (3, .int i), (4, .int n), (5, .int k)] := hl
  change W p l e ({ frames := 5, cells := 0, slots := 0, locals := 122 }) s m ([.ref h, .int v, .int a, .int i, .int n, .int k] : List Value).toArray below meth c s.heap [] 0 0 (MQ below (va_Qi (fun (r : Int32) (u : (Nat → Int32) × Int32) => (SI u.1 v0)) (fun u t => wb D A ((fun u => [(h, .inr (7, [.ref sl, .int na, .ref zs, .ref ln, .ref ir, .ref tk, .int u.2, .int le, .ref tb, .int fu, .int ap, .int pp, .ref tr, .int tc, .ref fz, .int nm])), (sl, .inl (cI, 1653, .inl u.1)), (zs, .inl (cI, 8, .inl zf)), (ir, .inl (cI, 320, .inl irf))]) u) t) A) ([.ref h, .int v, .int a, .int i, .int n, .int k] : List Value).toArray s 0 0 A) (F0 m 0 ls [])
  refine lv_aload_n hx hb dX8_slept_0 rfl (lv_at hl 0 rfl) ?_
  refine lv_iload_n hx hb dX8_slept_1 rfl (lv_at hl 1 rfl) ?_
  have k_1 := (g_X8_isWalkerThere l D cI cB cQ s.heap.size h sl zs ln ir tk tb tr fz na su le fu ap pp tc nm v sf v0 hsi)
  refine wc_i (WC := [(h, .inr (7, [.ref sl, .int na, .ref zs, .ref ln, .ref ir, .ref tk, .int su, .int le, .ref tb, .int fu, .int ap, .int pp, .ref tr, .int tc, .ref fz, .int nm])), (sl, .inl (cI, 1653, .inl sf))]) (WR := [(zs, .inl (cI, 8, .inl zf)), (ir, .inl (cI, 320, .inl irf))]) (va_runV (As := [.int v]) (rest := []) ⟨hx, hb, hml, hown, hts⟩ k_1 (cwV 1 hts gX8_slept_X8_isWalkerThere rfl rfl rfl (by decide +kernel) ⟨Nat.le_of_ble_eq_true rfl, Nat.le_of_ble_eq_true rfl⟩) (wp_V hP hK hD hN [0, 1] (by decide) rfl (ci := 7) rfl rfl) rfl rfl hl.1 rfl (lv_room (Nat.le_of_ble_eq_true rfl)) dX8_slept_2 ⟨Nat.le_of_ble_eq_true rfl, Nat.le_of_ble_eq_true rfl⟩) hP hD hS hA [0, 1] [2, 3] rfl rfl (by decide) (by decide) (fun r_1 u_1 H locs hw_1 hP hD hS => ?_)
  clear k_1
  have hP : va_P D kl [(zs, .inl (cI, 8, .inl zf)), (ir, .inl (cI, 320, .inl irf)), (h, .inr (7, [.ref sl, .int na, .ref zs, .ref ln, .ref ir, .ref tk, .int su, .int le, .ref tb, .int fu, .int ap, .int pp, .ref tr, .int tc, .ref fz, .int nm])), (sl, .inl (cI, 1653, .inl sf))] H := hP
  have hD : va_D A [(zs, .inl (cI, 8, .inl zf)), (ir, .inl (cI, 320, .inl irf)), (h, .inr (7, [.ref sl, .int na, .ref zs, .ref ln, .ref ir, .ref tk, .int su, .int le, .ref tb, .int fu, .int ap, .int pp, .ref tr, .int tc, .ref fz, .int nm])), (sl, .inl (cI, 1653, .inl sf))] := hD
  have c1_0 := hw_1
  rcases c1_0 with ⟨e_1, f_1⟩ | e_1
  · subst e_1
    have f_1 : 0 ≤ v.toInt ∧ v.toInt ≤ 2 := f_1
    refine lv_if_eq (tgt := 44) hx hb dX8_slept_5 (by decide) (fun c9 => absurd c9 (by decide)) (fun _ => ?_)
    refine lv_iload_n hx hb dX8_slept_8 rfl (lv_at hl 2 rfl) ?_
    refine lv_i2l (v := (a.toInt64)) hx hb dX8_slept_9 rfl ?_
    refine lv_lconst (v := 0) hx hb dX8_slept_10 (by decide) ?_
    refine lv_ldc2 (v := 7) hx hb hown (hts (.constantLong RX8 40 (7)) (List.mem_of_getElem? (i := 1) rfl)) dX8_slept_11 ?_
    have k_2 := (g_X8_in l D cI cB cQ H.size (a.toInt64) 0 7)
    refine wc_i (WC := []) (WR := [(zs, .inl (cI, 8, .inl zf)), (ir, .inl (cI, 320, .inl irf)), (h, .inr (7, [.ref sl, .int na, .ref zs, .ref ln, .ref ir, .ref tk, .int su, .int le, .ref tb, .int fu, .int ap, .int pp, .ref tr, .int tc, .ref fz, .int nm])), (sl, .inl (cI, 1653, .inl sf))]) (va_runS (As := [.long (a.toInt64), .long 0, .long 7]) (rest := []) ⟨hx, hb, hml, hown, hts⟩ k_2 (va_cwS 3 hts gX8_slept_X8_in rfl rfl rfl (by decide +kernel) ⟨Nat.le_of_ble_eq_true rfl, Nat.le_of_ble_eq_true rfl⟩) (wp_S hP hK hD hN [] (by decide) rfl) rfl rfl hl.1 rfl (lv_room (Nat.le_of_ble_eq_true rfl)) dX8_slept_14 ⟨Nat.le_of_ble_eq_true rfl, Nat.le_of_ble_eq_true rfl⟩) hP hD hS hA [] [0, 1, 2, 3] rfl rfl (by decide) (by decide) (fun r_2 u_2 H locs hw_2 hP hD hS => ?_)
    clear k_2
    have hP : va_P D kl [(zs, .inl (cI, 8, .inl zf)), (ir, .inl (cI, 320, .inl irf)), (h, .inr (7, [.ref sl, .int na, .ref zs, .ref ln, .ref ir, .ref tk, .int su, .int le, .ref tb, .int fu, .int ap, .int pp, .ref tr, .int tc, .ref fz, .int nm])), (sl, .inl (cI, 1653, .inl sf))] H := hP
    have hD : va_D A [(zs, .inl (cI, 8, .inl zf)), (ir, .inl (cI, 320, .inl irf)), (h, .inr (7, [.ref sl, .int na, .ref zs, .ref ln, .ref ir, .ref tk, .int su, .int le, .ref tb, .int fu, .int ap, .int pp, .ref tr, .int tc, .ref fz, .int nm])), (sl, .inl (cI, 1653, .inl sf))] := hD
    have c2_0 := hw_2
    rcases c2_0 with ⟨e_2, f_2⟩ | ⟨e_2, f_2⟩
    · subst e_2
      have f_2 : (0 : Int) ≤ a.toInt ∧ a.toInt ≤ (7 : Int) := by
        have h8 := f_2
        try simp only [zl_of] at h8
        exact h8
      refine lv_if_eq (tgt := 44) hx hb dX8_slept_17 (by decide) (fun c9 => absurd c9 (by decide)) (fun _ => ?_)
      refine lv_iload hx hb dX8_slept_20 (lv_at hl 4 rfl) ?_
      refine lv_i2l (v := (n.toInt64)) hx hb dX8_slept_22 rfl ?_
      refine lv_lconst (v := 1) hx hb dX8_slept_23 (by decide) ?_
      refine lv_ldc2 (v := 12) hx hb hown (hts (.constantLong RX8 188 (12)) (List.mem_of_getElem? (i := 2) rfl)) dX8_slept_24 ?_
      have k_3 := (g_X8_in l D cI cB cQ H.size (n.toInt64) 1 12)
      refine wc_i (WC := []) (WR := [(zs, .inl (cI, 8, .inl zf)), (ir, .inl (cI, 320, .inl irf)), (h, .inr (7, [.ref sl, .int na, .ref zs, .ref ln, .ref ir, .ref tk, .int su, .int le, .ref tb, .int fu, .int ap, .int pp, .ref tr, .int tc, .ref fz, .int nm])), (sl, .inl (cI, 1653, .inl sf))]) (va_runS (As := [.long (n.toInt64), .long 1, .long 12]) (rest := []) ⟨hx, hb, hml, hown, hts⟩ k_3 (va_cwS 3 hts gX8_slept_X8_in rfl rfl rfl (by decide +kernel) ⟨Nat.le_of_ble_eq_true rfl, Nat.le_of_ble_eq_true rfl⟩) (wp_S hP hK hD hN [] (by decide) rfl) rfl rfl hl.1 rfl (lv_room (Nat.le_of_ble_eq_true rfl)) dX8_slept_27 ⟨Nat.le_of_ble_eq_true rfl, Nat.le_of_ble_eq_true rfl⟩) hP hD hS hA [] [0, 1, 2, 3] rfl rfl (by decide) (by decide) (fun r_3 u_3 H locs hw_3 hP hD hS => ?_)
      clear k_3
      have hP : va_P D kl [(zs, .inl (cI, 8, .inl zf)), (ir, .inl (cI, 320, .inl irf)), (h, .inr (7, [.ref sl, .int na, .ref zs, .ref ln, .ref ir, .ref tk, .int su, .int le, .ref tb, .int fu, .int ap, .int pp, .ref tr, .int tc, .ref fz, .int nm])), (sl, .inl (cI, 1653, .inl sf))] H := hP
      have hD : va_D A [(zs, .inl (cI, 8, .inl zf)), (ir, .inl (cI, 320, .inl irf)), (h, .inr (7, [.ref sl, .int na, .ref zs, .ref ln, .ref ir, .ref tk, .int su, .int le, .ref tb, .int fu, .int ap, .int pp, .ref tr, .int tc, .ref fz, .int nm])), (sl, .inl (cI, 1653, .inl sf))] := hD
      have c3_0 := hw_3
      rcases c3_0 with ⟨e_3, f_3⟩ | ⟨e_3, f_3⟩
      · subst e_3
        have f_3 : (1 : Int) ≤ n.toInt ∧ n.toInt ≤ (12 : Int) := by
          have h8 := f_3
          try simp only [zl_of] at h8
          exact h8
        refine lv_if_eq (tgt := 44) hx hb dX8_slept_30 (by decide) (fun c9 => absurd c9 (by decide)) (fun _ => ?_)
        refine lv_iload hx hb dX8_slept_33 (lv_at hl 5 rfl) ?_
        refine lv_i2l (v := (k.toInt64)) hx hb dX8_slept_35 rfl ?_
        refine lv_lconst (v := 0) hx hb dX8_slept_36 (by decide) ?_
        refine lv_lconst (v := 1) hx hb dX8_slept_37 (by decide) ?_
        have k_4 := (g_X8_in l D cI cB cQ H.size (k.toInt64) 0 1)
        refine wc_i (WC := []) (WR := [(zs, .inl (cI, 8, .inl zf)), (ir, .inl (cI, 320, .inl irf)), (h, .inr (7, [.ref sl, .int na, .ref zs, .ref ln, .ref ir, .ref tk, .int su, .int le, .ref tb, .int fu, .int ap, .int pp, .ref tr, .int tc, .ref fz, .int nm])), (sl, .inl (cI, 1653, .inl sf))]) (va_runS (As := [.long (k.toInt64), .long 0, .long 1]) (rest := []) ⟨hx, hb, hml, hown, hts⟩ k_4 (va_cwS 3 hts gX8_slept_X8_in rfl rfl rfl (by decide +kernel) ⟨Nat.le_of_ble_eq_true rfl, Nat.le_of_ble_eq_true rfl⟩) (wp_S hP hK hD hN [] (by decide) rfl) rfl rfl hl.1 rfl (lv_room (Nat.le_of_ble_eq_true rfl)) dX8_slept_38 ⟨Nat.le_of_ble_eq_true rfl, Nat.le_of_ble_eq_true rfl⟩) hP hD hS hA [] [0, 1, 2, 3] rfl rfl (by decide) (by decide) (fun r_4 u_4 H locs hw_4 hP hD hS => ?_)
        clear k_4
        have hP : va_P D kl [(zs, .inl (cI, 8, .inl zf)), (ir, .inl (cI, 320, .inl irf)), (h, .inr (7, [.ref sl, .int na, .ref zs, .ref ln, .ref ir, .ref tk, .int su, .int le, .ref tb, .int fu, .int ap, .int pp, .ref tr, .int tc, .ref fz, .int nm])), (sl, .inl (cI, 1653, .inl sf))] H := hP
        have hD : va_D A [(zs, .inl (cI, 8, .inl zf)), (ir, .inl (cI, 320, .inl irf)), (h, .inr (7, [.ref sl, .int na, .ref zs, .ref ln, .ref ir, .ref tk, .int su, .int le, .ref tb, .int fu, .int ap, .int pp, .ref tr, .int tc, .ref fz, .int nm])), (sl, .inl (cI, 1653, .inl sf))] := hD
        have c4_0 := hw_4
        rcases c4_0 with ⟨e_4, f_4⟩ | ⟨e_4, f_4⟩
        · subst e_4
          have f_4 : (0 : Int) ≤ k.toInt ∧ k.toInt ≤ (1 : Int) := by
            have h8 := f_4
            try simp only [zl_of] at h8
            exact h8
          refine lv_if_ne (tgt := 47) hx hb dX8_slept_41 (by decide) (fun _ => ?_) (fun c9 => absurd c9 (by decide))
          refine lv_aload_n hx hb dX8_slept_47 rfl (lv_at hl 0 rfl) ?_
          refine lv_iload_n hx hb dX8_slept_48 rfl (lv_at hl 2 rfl) ?_
          refine lv_iload_n hx hb dX8_slept_49 rfl (lv_at hl 3 rfl) ?_
          refine lv_iload hx hb dX8_slept_50 (lv_at hl 4 rfl) ?_
          have k_5 := (g_X8_why l D cI cB cQ H.size h sl zs ln ir tk tb tr fz na su le fu ap pp tc nm a i n zf hz (by omega) (by omega))
          refine wc_i (WC := [(h, .inr (7, [.ref sl, .int na, .ref zs, .ref ln, .ref ir, .ref tk, .int su, .int le, .ref tb, .int fu, .int ap, .int pp, .ref tr, .int tc, .ref fz, .int nm])), (zs, .inl (cI, 8, .inl zf))]) (WR := [(ir, .inl (cI, 320, .inl irf)), (sl, .inl (cI, 1653, .inl sf))]) (va_runV (As := [.int a, .int i, .int n]) (rest := []) ⟨hx, hb, hml, hown, hts⟩ k_5 (cwV 3 hts gX8_slept_X8_why rfl rfl rfl (by decide +kernel) ⟨Nat.le_of_ble_eq_true rfl, Nat.le_of_ble_eq_true rfl⟩) (wp_V hP hK hD hN [2, 0] (by decide) rfl (ci := 7) rfl rfl) rfl rfl hl.1 rfl (lv_room (Nat.le_of_ble_eq_true rfl)) dX8_slept_52 ⟨Nat.le_of_ble_eq_true rfl, Nat.le_of_ble_eq_true rfl⟩) hP hD hS hA [2, 0] [1, 3] rfl rfl (by decide) (by decide) (fun r_5 u_5 H locs hw_5 hP hD hS => ?_)
          clear k_5
          have hP : va_P D kl [(ir, .inl (cI, 320, .inl irf)), (sl, .inl (cI, 1653, .inl sf)), (h, .inr (7, [.ref sl, .int na, .ref zs, .ref ln, .ref ir, .ref tk, .int su, .int le, .ref tb, .int fu, .int ap, .int pp, .ref tr, .int tc, .ref fz, .int nm])), (zs, .inl (cI, 8, .inl zf))] H := hP
          have hD : va_D A [(ir, .inl (cI, 320, .inl irf)), (sl, .inl (cI, 1653, .inl sf)), (h, .inr (7, [.ref sl, .int na, .ref zs, .ref ln, .ref ir, .ref tk, .int su, .int le, .ref tb, .int fu, .int ap, .int pp, .ref tr, .int tc, .ref fz, .int nm])), (zs, .inl (cI, 8, .inl zf))] := hD
          have c5_0 := hw_5
          rcases c5_0 with ⟨e_5, f_5⟩ | e_5 | e_5
          · subst e_5
            have f_5 : 0 ≤ i.toInt ∧ i.toInt ≤ 40 ∧ i.toInt + n.toInt ≤ 40 := f_5
            refine lv_istore (lv' := [(6, .int 0), (0, .ref h), (1, .int v), (2, .int a), (3, .int i), (4, .int n), (5, .int k)]) hx hb dX8_slept_55 hl (by decide) rfl (fun ls hl => ?_)
            refine lv_iload hx hb dX8_slept_57 (lv_at hl 0 rfl) ?_
            refine lv_if_le (tgt := 69) hx hb dX8_slept_59 (by decide) (fun _ => ?_) (fun c9 => absurd (by decide) c9)
            refine lv_iconst (v := 0) hx hb dX8_slept_69 (by decide) ?_
            refine lv_istore (lv' := [(7, .int 0), (6, .int 0), (0, .ref h), (1, .int v), (2, .int a), (3, .int i), (4, .int n), (5, .int k)]) hx hb dX8_slept_70 hl (by decide) rfl (fun ls hl => ?_)
            refine lv_ldc (v := (-1000000)) hx hb hown (hts (.constant RX8 99 (-1000000)) (List.mem_of_getElem? (i := 4) rfl)) dX8_slept_72 ?_
            refine lv_istore (lv' := [(8, .int (-1000000)), (7, .int 0), (6, .int 0), (0, .ref h), (1, .int v), (2, .int a), (3, .int i), (4, .int n), (5, .int k)]) hx hb dX8_slept_74 hl (by decide) rfl (fun ls hl => ?_)
            refine lv_iconst (v := 0) hx hb dX8_slept_76 (by decide) ?_
            refine lv_istore (lv' := [(9, .int 0), (8, .int (-1000000)), (7, .int 0), (6, .int 0), (0, .ref h), (1, .int v), (2, .int a), (3, .int i), (4, .int n), (5, .int k)]) hx hb dX8_slept_77 hl (by decide) rfl (fun ls hl => ?_)
            have hL79 : ∀ (nf : Nat) (t9_c79 : Int32) (t8_c79 : Int32) (t7_c79 : Int32) (g0_c79 : Nat → Int32) (H : Heap) (locs : List Loc) (ls : Array Slot), (0 ≤ t9_c79.toInt ∧ t9_c79.toInt ≤ 8) → (SI g0_c79 v0) → (8 - t9_c79.toInt).toNat < nf → va_P D kl [(ir, .inl (cI, 320, .inl irf)), (sl, .inl (cI, 1653, .inl g0_c79)), (h, .inr (7, [.ref sl, .int na, .ref zs, .ref ln, .ref ir, .ref tk, .int su, .int le, .ref tb, .int fu, .int ap, .int pp, .ref tr, .int tc, .ref fz, .int nm])), (zs, .inl (cI, 8, .inl zf))] H → va_D A [(ir, .inl (cI, 320, .inl irf)), (sl, .inl (cI, 1653, .inl g0_c79)), (h, .inr (7, [.ref sl, .int na, .ref zs, .ref ln, .ref ir, .ref tk, .int su, .int le, .ref tb, .int fu, .int ap, .int pp, .ref tr, .int tc, .ref fz, .int nm])), (zs, .inl (cI, 8, .inl zf))] → va_S A s.heap H locs → lv_has ls 12 [(9, .int t9_c79), (8, .int t8_c79), (7, .int t7_c79), (6, .int 0), (0, .ref h), (1, .int v), (2, .int a), (3, .int i), (4, .int n), (5, .int k)] → W p l e ({ frames := 5, cells := 0, slots := 0, locals := 122 }) s m ([.ref h, .int v, .int a, .int i, .int n, .int k] : List Value).toArray below meth c H locs 0 0 (MQ below (va_Qi (fun (r : Int32) (u : (Nat → Int32) × Int32) => (SI u.1 v0)) (fun u t => wb D A ((fun u => [(h, .inr (7, [.ref sl, .int na, .ref zs, .ref ln, .ref ir, .ref tk, .int u.2, .int le, .ref tb, .int fu, .int ap, .int pp, .ref tr, .int tc, .ref fz, .int nm])), (sl, .inl (cI, 1653, .inl u.1)), (zs, .inl (cI, 8, .inl zf)), (ir, .inl (cI, 320, .inl irf))]) u) t) A) ([.ref h, .int v, .int a, .int i, .int n, .int k] : List Value).toArray s 0 0 A) (F0 m 79 ls []) := by
              intro nf
              induction nf with
              | zero =>
                intro t9_c79 t8_c79 t7_c79 g0_c79 H locs ls i_t9_c79 ha_g0_c79 hm
                exact absurd hm (Nat.not_lt_zero _)
              | succ nf ih79 =>
                intro t9_c79 t8_c79 t7_c79 g0_c79 H locs ls i_t9_c79 ha_g0_c79 hm79 hP hD hS hl
                refine lv_iload hx hb dX8_slept_79 (lv_at hl 0 rfl) ?_
                refine lv_aload_n hx hb dX8_slept_81 rfl (lv_at hl 4 rfl) ?_
                refine va_get (D := D) (ci := 7) (v := .ref sl) (C := RX8) (T := TX8) (N := 16) hx hb hts (fun _ h => List.mem_cons_of_mem _ (List.mem_append_right _ h)) hown hK hP 2 rfl rfl 0 (by decide) (hts (.fieldLink RX8 7 "WinterWalkModel" "slot" "[I") (List.mem_of_getElem? (i := 5) rfl)) (fun _ h9 => h9) rfl dX8_slept_82 ?_
                refine lv_iconst (v := 1) hx hb dX8_slept_85 (by decide) ?_
                refine va_iald hx hb hK hP 1 0 rfl rfl (zi_in (by decide) (by decide)) dX8_slept_86 ?_
                refine lv_topi (fun x_6 ex_6 => ?_)
                have f_6 : 0 ≤ x_6.toInt ∧ x_6.toInt ≤ 8 := by rw [ex_6]; exact si_v ha_g0_c79 (s := 0) (by decide) (by omega)
                have g_6 : x_6.toInt = v0 := by rw [ex_6]; exact ha_g0_c79.2
                refine lv_icmp_ge (tgt := 198) hx hb dX8_slept_87 (by decide) (fun c_7 => ?_) (fun c_7 => ?_)
                · have f_7 : x_6.toInt ≤ t9_c79.toInt := zi_le c_7
                  refine lv_aload_n hx hb dX8_slept_198 rfl (lv_at hl 4 rfl) ?_
                  refine lv_iload hx hb dX8_slept_199 (lv_at hl 9 rfl) ?_
                  refine lv_if_ne (tgt := 209) hx hb dX8_slept_201 (by decide) (fun c_8 => ?_) (fun c_8 => ?_)
                  · have f_8 : ¬ k.toInt = 0 := zi_ne c_8
                    refine lv_iload hx hb dX8_slept_209 (lv_at hl 1 rfl) ?_
                    have k_9 := (g_X8_told l D cI cB cQ H.size h sl zs ln ir tk tb tr fz na su le fu ap pp tc nm t8_c79)
                    refine wc_i (WC := [(h, .inr (7, [.ref sl, .int na, .ref zs, .ref ln, .ref ir, .ref tk, .int su, .int le, .ref tb, .int fu, .int ap, .int pp, .ref tr, .int tc, .ref fz, .int nm]))]) (WR := [(ir, .inl (cI, 320, .inl irf)), (sl, .inl (cI, 1653, .inl g0_c79)), (zs, .inl (cI, 8, .inl zf))]) (va_runV (As := [.int t8_c79]) (rest := []) ⟨hx, hb, hml, hown, hts⟩ k_9 (cwV 1 hts gX8_slept_X8_told rfl rfl rfl (by decide +kernel) ⟨Nat.le_of_ble_eq_true rfl, Nat.le_of_ble_eq_true rfl⟩) (wp_V hP hK hD hN [2] (by decide) rfl (ci := 7) rfl rfl) rfl rfl hl.1 rfl (lv_room (Nat.le_of_ble_eq_true rfl)) dX8_slept_211 ⟨Nat.le_of_ble_eq_true rfl, Nat.le_of_ble_eq_true rfl⟩) hP hD hS hA [2] [0, 1, 3] rfl rfl (by decide) (by decide) (fun r_9 u_9 H locs hw_9 hP hD hS => ?_)
                    clear k_9
                    have hP : va_P D kl [(ir, .inl (cI, 320, .inl irf)), (sl, .inl (cI, 1653, .inl g0_c79)), (zs, .inl (cI, 8, .inl zf)), (h, .inr (7, [.ref sl, .int na, .ref zs, .ref ln, .ref ir, .ref tk, .int u_9, .int le, .ref tb, .int fu, .int ap, .int pp, .ref tr, .int tc, .ref fz, .int nm]))] H := hP
                    have hD : va_D A [(ir, .inl (cI, 320, .inl irf)), (sl, .inl (cI, 1653, .inl g0_c79)), (zs, .inl (cI, 8, .inl zf)), (h, .inr (7, [.ref sl, .int na, .ref zs, .ref ln, .ref ir, .ref tk, .int u_9, .int le, .ref tb, .int fu, .int ap, .int pp, .ref tr, .int tc, .ref fz, .int nm]))] := hD
                    clear hw_9
                    exact wr_i (v := r_9) hx hb hr hlocks hS (g0_c79, u_9) (by exact ha_g0_c79) (hP.sub [3, 1, 2, 0] rfl) (hD.sub [3, 1, 2, 0] (by decide) rfl) dX8_slept_214
                  · have f_8 : k.toInt = 0 := zi_eq c_8
                    refine lv_iload hx hb dX8_slept_204 (lv_at hl 2 rfl) ?_
                    refine lv_goto (tgt := 211) hx hb dX8_slept_206 (by decide) ?_
                    have k_10 := (g_X8_told l D cI cB cQ H.size h sl zs ln ir tk tb tr fz na su le fu ap pp tc nm t7_c79)
                    refine wc_i (WC := [(h, .inr (7, [.ref sl, .int na, .ref zs, .ref ln, .ref ir, .ref tk, .int su, .int le, .ref tb, .int fu, .int ap, .int pp, .ref tr, .int tc, .ref fz, .int nm]))]) (WR := [(ir, .inl (cI, 320, .inl irf)), (sl, .inl (cI, 1653, .inl g0_c79)), (zs, .inl (cI, 8, .inl zf))]) (va_runV (As := [.int t7_c79]) (rest := []) ⟨hx, hb, hml, hown, hts⟩ k_10 (cwV 1 hts gX8_slept_X8_told rfl rfl rfl (by decide +kernel) ⟨Nat.le_of_ble_eq_true rfl, Nat.le_of_ble_eq_true rfl⟩) (wp_V hP hK hD hN [2] (by decide) rfl (ci := 7) rfl rfl) rfl rfl hl.1 rfl (lv_room (Nat.le_of_ble_eq_true rfl)) dX8_slept_211 ⟨Nat.le_of_ble_eq_true rfl, Nat.le_of_ble_eq_true rfl⟩) hP hD hS hA [2] [0, 1, 3] rfl rfl (by decide) (by decide) (fun r_10 u_10 H locs hw_10 hP hD hS => ?_)
                    clear k_10
                    have hP : va_P D kl [(ir, .inl (cI, 320, .inl irf)), (sl, .inl (cI, 1653, .inl g0_c79)), (zs, .inl (cI, 8, .inl zf)), (h, .inr (7, [.ref sl, .int na, .ref zs, .ref ln, .ref ir, .ref tk, .int u_10, .int le, .ref tb, .int fu, .int ap, .int pp, .ref tr, .int tc, .ref fz, .int nm]))] H := hP
                    have hD : va_D A [(ir, .inl (cI, 320, .inl irf)), (sl, .inl (cI, 1653, .inl g0_c79)), (zs, .inl (cI, 8, .inl zf)), (h, .inr (7, [.ref sl, .int na, .ref zs, .ref ln, .ref ir, .ref tk, .int u_10, .int le, .ref tb, .int fu, .int ap, .int pp, .ref tr, .int tc, .ref fz, .int nm]))] := hD
                    clear hw_10
                    exact wr_i (v := r_10) hx hb hr hlocks hS (g0_c79, u_10) (by exact ha_g0_c79) (hP.sub [3, 1, 2, 0] rfl) (hD.sub [3, 1, 2, 0] (by decide) rfl) dX8_slept_214
                · have f_7 : ¬ x_6.toInt ≤ t9_c79.toInt := zi_nle c_7
                  refine lv_aload_n hx hb dX8_slept_90 rfl (lv_at hl 4 rfl) ?_
                  refine lv_iload_n hx hb dX8_slept_91 rfl (lv_at hl 5 rfl) ?_
                  refine lv_iload hx hb dX8_slept_92 (lv_at hl 0 rfl) ?_
                  have k_11 := (g_X8_alone l D cI cB cQ H.size h sl zs ln ir tk tb tr fz na su le fu ap pp tc nm v t9_c79 g0_c79 v0 ha_g0_c79 (by omega) (by omega))
                  refine wc_v (WC := [(h, .inr (7, [.ref sl, .int na, .ref zs, .ref ln, .ref ir, .ref tk, .int su, .int le, .ref tb, .int fu, .int ap, .int pp, .ref tr, .int tc, .ref fz, .int nm])), (sl, .inl (cI, 1653, .inl g0_c79))]) (WR := [(ir, .inl (cI, 320, .inl irf)), (zs, .inl (cI, 8, .inl zf))]) (va_runV (As := [.int v, .int t9_c79]) (rest := []) ⟨hx, hb, hml, hown, hts⟩ k_11 (cwV 2 hts gX8_slept_X8_alone rfl rfl rfl (by decide +kernel) ⟨Nat.le_of_ble_eq_true rfl, Nat.le_of_ble_eq_true rfl⟩) (wp_V hP hK hD hN [2, 1] (by decide) rfl (ci := 7) rfl rfl) rfl rfl hl.1 rfl (lv_room (Nat.le_of_ble_eq_true rfl)) dX8_slept_94 ⟨Nat.le_of_ble_eq_true rfl, Nat.le_of_ble_eq_true rfl⟩) hP hD hS hA [2, 1] [0, 3] rfl rfl (by decide) (by decide) (fun u_11 H locs hw_11 hP hD hS => ?_)
                  clear k_11
                  have hP : va_P D kl [(ir, .inl (cI, 320, .inl irf)), (zs, .inl (cI, 8, .inl zf)), (h, .inr (7, [.ref sl, .int na, .ref zs, .ref ln, .ref ir, .ref tk, .int su, .int le, .ref tb, .int fu, .int ap, .int pp, .ref tr, .int tc, .ref fz, .int nm])), (sl, .inl (cI, 1653, .inl u_11))] H := hP
                  have hD : va_D A [(ir, .inl (cI, 320, .inl irf)), (zs, .inl (cI, 8, .inl zf)), (h, .inr (7, [.ref sl, .int na, .ref zs, .ref ln, .ref ir, .ref tk, .int su, .int le, .ref tb, .int fu, .int ap, .int pp, .ref tr, .int tc, .ref fz, .int nm])), (sl, .inl (cI, 1653, .inl u_11))] := hD
                  have c11_0 := hw_11
                  have c11_0 : SI u_11 v0 := c11_0
                  refine lv_iconst (v := 1) hx hb dX8_slept_97 (by decide) ?_
                  refine lv_istore (lv' := [(10, .int 1), (9, .int t9_c79), (8, .int t8_c79), (7, .int t7_c79), (6, .int 0), (0, .ref h), (1, .int v), (2, .int a), (3, .int i), (4, .int n), (5, .int k)]) hx hb dX8_slept_98 hl (by decide) rfl (fun ls hl => ?_)
                  refine lv_iconst (v := 0) hx hb dX8_slept_100 (by decide) ?_
                  refine lv_istore (lv' := [(11, .int 0), (10, .int 1), (9, .int t9_c79), (8, .int t8_c79), (7, .int t7_c79), (6, .int 0), (0, .ref h), (1, .int v), (2, .int a), (3, .int i), (4, .int n), (5, .int k)]) hx hb dX8_slept_101 hl (by decide) rfl (fun ls hl => ?_)
                  have hL103 : ∀ (nf : Nat) (t11_c103 : Int32) (t10_c103 : Int32) (g0_c103 : Nat → Int32) (H : Heap) (locs : List Loc) (ls : Array Slot), (0 ≤ t11_c103.toInt ∧ t11_c103.toInt ≤ 12) → (SI g0_c103 v0) → (n.toInt - t11_c103.toInt).toNat < nf → va_P D kl [(ir, .inl (cI, 320, .inl irf)), (zs, .inl (cI, 8, .inl zf)), (h, .inr (7, [.ref sl, .int na, .ref zs, .ref ln, .ref ir, .ref tk, .int su, .int le, .ref tb, .int fu, .int ap, .int pp, .ref tr, .int tc, .ref fz, .int nm])), (sl, .inl (cI, 1653, .inl g0_c103))] H → va_D A [(ir, .inl (cI, 320, .inl irf)), (zs, .inl (cI, 8, .inl zf)), (h, .inr (7, [.ref sl, .int na, .ref zs, .ref ln, .ref ir, .ref tk, .int su, .int le, .ref tb, .int fu, .int ap, .int pp, .ref tr, .int tc, .ref fz, .int nm])), (sl, .inl (cI, 1653, .inl g0_c103))] → va_S A s.heap H locs → lv_has ls 12 [(11, .int t11_c103), (10, .int t10_c103), (9, .int t9_c79), (8, .int t8_c79), (7, .int t7_c79), (6, .int 0), (0, .ref h), (1, .int v), (2, .int a), (3, .int i), (4, .int n), (5, .int k)] → W p l e ({ frames := 5, cells := 0, slots := 0, locals := 122 }) s m ([.ref h, .int v, .int a, .int i, .int n, .int k] : List Value).toArray below meth c H locs 0 0 (MQ below (va_Qi (fun (r : Int32) (u : (Nat → Int32) × Int32) => (SI u.1 v0)) (fun u t => wb D A ((fun u => [(h, .inr (7, [.ref sl, .int na, .ref zs, .ref ln, .ref ir, .ref tk, .int u.2, .int le, .ref tb, .int fu, .int ap, .int pp, .ref tr, .int tc, .ref fz, .int nm])), (sl, .inl (cI, 1653, .inl u.1)), (zs, .inl (cI, 8, .inl zf)), (ir, .inl (cI, 320, .inl irf))]) u) t) A) ([.ref h, .int v, .int a, .int i, .int n, .int k] : List Value).toArray s 0 0 A) (F0 m 103 ls []) := by
                    intro nf
                    induction nf with
                    | zero =>
                      intro t11_c103 t10_c103 g0_c103 H locs ls i_t11_c103 ha_g0_c103 hm
                      exact absurd hm (Nat.not_lt_zero _)
                    | succ nf ih103 =>
                      intro t11_c103 t10_c103 g0_c103 H locs ls i_t11_c103 ha_g0_c103 hm103 hP hD hS hl
                      refine lv_iload hx hb dX8_slept_103 (lv_at hl 0 rfl) ?_
                      refine lv_iload hx hb dX8_slept_105 (lv_at hl 10 rfl) ?_
                      refine lv_icmp_ge (tgt := 158) hx hb dX8_slept_107 (by decide) (fun c_12 => ?_) (fun c_12 => ?_)
                      · have f_12 : n.toInt ≤ t11_c103.toInt := zi_le c_12
                        refine lv_iload hx hb dX8_slept_158 (lv_at hl 1 rfl) ?_
                        refine lv_if_eq (tgt := 173) hx hb dX8_slept_160 (by decide) (fun c_13 => ?_) (fun c_13 => ?_)
                        · have f_13 : t10_c103.toInt = 0 := zi_eq c_13
                          refine lv_iload hx hb dX8_slept_173 (lv_at hl 3 rfl) ?_
                          refine lv_istore (lv' := [(8, .int t8_c79), (11, .int t11_c103), (10, .int t10_c103), (9, .int t9_c79), (7, .int t7_c79), (6, .int 0), (0, .ref h), (1, .int v), (2, .int a), (3, .int i), (4, .int n), (5, .int k)]) hx hb dX8_slept_175 hl (by decide) rfl (fun ls hl => ?_)
                          refine lv_iload hx hb dX8_slept_177 (lv_at hl 4 rfl) ?_
                          refine lv_iload hx hb dX8_slept_179 (lv_at hl 2 rfl) ?_
                          refine lv_if_eq (tgt := 188) hx hb dX8_slept_181 (by decide) (fun c_14 => ?_) (fun c_14 => ?_)
                          · have f_14 : t10_c103.toInt = 0 := zi_eq c_14
                            refine lv_iconst (v := 0) hx hb dX8_slept_188 (by decide) ?_
                            refine lv_iadd hx hb dX8_slept_189 ?_
                            refine lv_topi (fun x_15 ex_15 => ?_)
                            clear ex_15
                            refine lv_istore (lv' := [(7, .int x_15), (8, .int t8_c79), (11, .int t11_c103), (10, .int t10_c103), (9, .int t9_c79), (6, .int 0), (0, .ref h), (1, .int v), (2, .int a), (3, .int i), (4, .int n), (5, .int k)]) hx hb dX8_slept_190 hl (by decide) rfl (fun ls hl => ?_)
                            obtain ⟨x_16, ex_16⟩ : ∃ y : Int32, y = t9_c79 + Int32.ofInt 1 := ⟨_, rfl⟩
                            refine lv_iinc (v := x_16) (lv' := [(9, .int x_16), (7, .int x_15), (8, .int t8_c79), (11, .int t11_c103), (10, .int t10_c103), (6, .int 0), (0, .ref h), (1, .int v), (2, .int a), (3, .int i), (4, .int n), (5, .int k)]) hx hb dX8_slept_192 hl (k := 4) rfl ex_16.symm (by decide) rfl (fun ls hl => ?_)
                            have ex_16 : x_16 = t9_c79 + 1 := ex_16
                            have e_16 : x_16.toInt = t9_c79.toInt + 1 := by rw [ex_16]; exact zi_add (rfl) (by decide) (by omega) (by omega)
                            clear ex_16
                            refine lv_goto (tgt := 79) hx hb dX8_slept_195 (by decide) ?_
                            exact ih79 x_16 t8_c79 x_15 g0_c103 _ _ _ (show 0 ≤ x_16.toInt ∧ x_16.toInt ≤ 8 from by omega) ha_g0_c103 (by omega) (hP.sub [0, 3, 2, 1] rfl) (hD.sub [0, 3, 2, 1] (by decide) rfl) hS (lv_sub hl [0, 2, 1, 5, 6, 7, 8, 9, 10, 11] rfl)
                          · have f_14 : ¬ t10_c103.toInt = 0 := zi_ne c_14
                            refine lv_iconst (v := 1) hx hb dX8_slept_184 (by decide) ?_
                            refine lv_goto (tgt := 189) hx hb dX8_slept_185 (by decide) ?_
                            refine lv_iadd hx hb dX8_slept_189 ?_
                            refine lv_topi (fun x_17 ex_17 => ?_)
                            clear ex_17
                            refine lv_istore (lv' := [(7, .int x_17), (8, .int t8_c79), (11, .int t11_c103), (10, .int t10_c103), (9, .int t9_c79), (6, .int 0), (0, .ref h), (1, .int v), (2, .int a), (3, .int i), (4, .int n), (5, .int k)]) hx hb dX8_slept_190 hl (by decide) rfl (fun ls hl => ?_)
                            obtain ⟨x_18, ex_18⟩ : ∃ y : Int32, y = t9_c79 + Int32.ofInt 1 := ⟨_, rfl⟩
                            refine lv_iinc (v := x_18) (lv' := [(9, .int x_18), (7, .int x_17), (8, .int t8_c79), (11, .int t11_c103), (10, .int t10_c103), (6, .int 0), (0, .ref h), (1, .int v), (2, .int a), (3, .int i), (4, .int n), (5, .int k)]) hx hb dX8_slept_192 hl (k := 4) rfl ex_18.symm (by decide) rfl (fun ls hl => ?_)
                            have ex_18 : x_18 = t9_c79 + 1 := ex_18
                            have e_18 : x_18.toInt = t9_c79.toInt + 1 := by rw [ex_18]; exact zi_add (rfl) (by decide) (by omega) (by omega)
                            clear ex_18
                            refine lv_goto (tgt := 79) hx hb dX8_slept_195 (by decide) ?_
                            exact ih79 x_18 t8_c79 x_17 g0_c103 _ _ _ (show 0 ≤ x_18.toInt ∧ x_18.toInt ≤ 8 from by omega) ha_g0_c103 (by omega) (hP.sub [0, 3, 2, 1] rfl) (hD.sub [0, 3, 2, 1] (by decide) rfl) hS (lv_sub hl [0, 2, 1, 5, 6, 7, 8, 9, 10, 11] rfl)
                        · have f_13 : ¬ t10_c103.toInt = 0 := zi_ne c_13
                          refine lv_iload hx hb dX8_slept_163 (lv_at hl 4 rfl) ?_
                          refine lv_if_ne (tgt := 173) hx hb dX8_slept_165 (by decide) (fun c_19 => ?_) (fun c_19 => ?_)
                          · have f_19 : ¬ t7_c79.toInt = 0 := zi_ne c_19
                            refine lv_iload hx hb dX8_slept_173 (lv_at hl 3 rfl) ?_
                            refine lv_istore (lv' := [(8, .int t8_c79), (11, .int t11_c103), (10, .int t10_c103), (9, .int t9_c79), (7, .int t7_c79), (6, .int 0), (0, .ref h), (1, .int v), (2, .int a), (3, .int i), (4, .int n), (5, .int k)]) hx hb dX8_slept_175 hl (by decide) rfl (fun ls hl => ?_)
                            refine lv_iload hx hb dX8_slept_177 (lv_at hl 4 rfl) ?_
                            refine lv_iload hx hb dX8_slept_179 (lv_at hl 2 rfl) ?_
                            refine lv_if_eq (tgt := 188) hx hb dX8_slept_181 (by decide) (fun c_20 => ?_) (fun c_20 => ?_)
                            · have f_20 : t10_c103.toInt = 0 := zi_eq c_20
                              refine lv_iconst (v := 0) hx hb dX8_slept_188 (by decide) ?_
                              refine lv_iadd hx hb dX8_slept_189 ?_
                              refine lv_topi (fun x_21 ex_21 => ?_)
                              clear ex_21
                              refine lv_istore (lv' := [(7, .int x_21), (8, .int t8_c79), (11, .int t11_c103), (10, .int t10_c103), (9, .int t9_c79), (6, .int 0), (0, .ref h), (1, .int v), (2, .int a), (3, .int i), (4, .int n), (5, .int k)]) hx hb dX8_slept_190 hl (by decide) rfl (fun ls hl => ?_)
                              obtain ⟨x_22, ex_22⟩ : ∃ y : Int32, y = t9_c79 + Int32.ofInt 1 := ⟨_, rfl⟩
                              refine lv_iinc (v := x_22) (lv' := [(9, .int x_22), (7, .int x_21), (8, .int t8_c79), (11, .int t11_c103), (10, .int t10_c103), (6, .int 0), (0, .ref h), (1, .int v), (2, .int a), (3, .int i), (4, .int n), (5, .int k)]) hx hb dX8_slept_192 hl (k := 4) rfl ex_22.symm (by decide) rfl (fun ls hl => ?_)
                              have ex_22 : x_22 = t9_c79 + 1 := ex_22
                              have e_22 : x_22.toInt = t9_c79.toInt + 1 := by rw [ex_22]; exact zi_add (rfl) (by decide) (by omega) (by omega)
                              clear ex_22
                              refine lv_goto (tgt := 79) hx hb dX8_slept_195 (by decide) ?_
                              exact ih79 x_22 t8_c79 x_21 g0_c103 _ _ _ (show 0 ≤ x_22.toInt ∧ x_22.toInt ≤ 8 from by omega) ha_g0_c103 (by omega) (hP.sub [0, 3, 2, 1] rfl) (hD.sub [0, 3, 2, 1] (by decide) rfl) hS (lv_sub hl [0, 2, 1, 5, 6, 7, 8, 9, 10, 11] rfl)
                            · have f_20 : ¬ t10_c103.toInt = 0 := zi_ne c_20
                              refine lv_iconst (v := 1) hx hb dX8_slept_184 (by decide) ?_
                              refine lv_goto (tgt := 189) hx hb dX8_slept_185 (by decide) ?_
                              refine lv_iadd hx hb dX8_slept_189 ?_
                              refine lv_topi (fun x_23 ex_23 => ?_)
                              clear ex_23
                              refine lv_istore (lv' := [(7, .int x_23), (8, .int t8_c79), (11, .int t11_c103), (10, .int t10_c103), (9, .int t9_c79), (6, .int 0), (0, .ref h), (1, .int v), (2, .int a), (3, .int i), (4, .int n), (5, .int k)]) hx hb dX8_slept_190 hl (by decide) rfl (fun ls hl => ?_)
                              obtain ⟨x_24, ex_24⟩ : ∃ y : Int32, y = t9_c79 + Int32.ofInt 1 := ⟨_, rfl⟩
                              refine lv_iinc (v := x_24) (lv' := [(9, .int x_24), (7, .int x_23), (8, .int t8_c79), (11, .int t11_c103), (10, .int t10_c103), (6, .int 0), (0, .ref h), (1, .int v), (2, .int a), (3, .int i), (4, .int n), (5, .int k)]) hx hb dX8_slept_192 hl (k := 4) rfl ex_24.symm (by decide) rfl (fun ls hl => ?_)
                              have ex_24 : x_24 = t9_c79 + 1 := ex_24
                              have e_24 : x_24.toInt = t9_c79.toInt + 1 := by rw [ex_24]; exact zi_add (rfl) (by decide) (by omega) (by omega)
                              clear ex_24
                              refine lv_goto (tgt := 79) hx hb dX8_slept_195 (by decide) ?_
                              exact ih79 x_24 t8_c79 x_23 g0_c103 _ _ _ (show 0 ≤ x_24.toInt ∧ x_24.toInt ≤ 8 from by omega) ha_g0_c103 (by omega) (hP.sub [0, 3, 2, 1] rfl) (hD.sub [0, 3, 2, 1] (by decide) rfl) hS (lv_sub hl [0, 2, 1, 5, 6, 7, 8, 9, 10, 11] rfl)
                          · have f_19 : t7_c79.toInt = 0 := zi_eq c_19
                            refine lv_iload hx hb dX8_slept_168 (lv_at hl 2 rfl) ?_
                            refine lv_goto (tgt := 175) hx hb dX8_slept_170 (by decide) ?_
                            refine lv_istore (lv' := [(8, .int t9_c79), (11, .int t11_c103), (10, .int t10_c103), (9, .int t9_c79), (7, .int t7_c79), (6, .int 0), (0, .ref h), (1, .int v), (2, .int a), (3, .int i), (4, .int n), (5, .int k)]) hx hb dX8_slept_175 hl (by decide) rfl (fun ls hl => ?_)
                            refine lv_iload hx hb dX8_slept_177 (lv_at hl 4 rfl) ?_
                            refine lv_iload hx hb dX8_slept_179 (lv_at hl 2 rfl) ?_
                            refine lv_if_eq (tgt := 188) hx hb dX8_slept_181 (by decide) (fun c_25 => ?_) (fun c_25 => ?_)
                            · have f_25 : t10_c103.toInt = 0 := zi_eq c_25
                              refine lv_iconst (v := 0) hx hb dX8_slept_188 (by decide) ?_
                              refine lv_iadd hx hb dX8_slept_189 ?_
                              refine lv_topi (fun x_26 ex_26 => ?_)
                              have e_26 : x_26.toInt = t7_c79.toInt + 0 := by rw [ex_26]; exact zi_add (rfl) (by decide) (by omega) (by omega)
                              clear ex_26
                              refine lv_istore (lv' := [(7, .int x_26), (8, .int t9_c79), (11, .int t11_c103), (10, .int t10_c103), (9, .int t9_c79), (6, .int 0), (0, .ref h), (1, .int v), (2, .int a), (3, .int i), (4, .int n), (5, .int k)]) hx hb dX8_slept_190 hl (by decide) rfl (fun ls hl => ?_)
                              obtain ⟨x_27, ex_27⟩ : ∃ y : Int32, y = t9_c79 + Int32.ofInt 1 := ⟨_, rfl⟩
                              refine lv_iinc (v := x_27) (lv' := [(9, .int x_27), (7, .int x_26), (8, .int t9_c79), (11, .int t11_c103), (10, .int t10_c103), (6, .int 0), (0, .ref h), (1, .int v), (2, .int a), (3, .int i), (4, .int n), (5, .int k)]) hx hb dX8_slept_192 hl (k := 4) rfl ex_27.symm (by decide) rfl (fun ls hl => ?_)
                              have ex_27 : x_27 = t9_c79 + 1 := ex_27
                              have e_27 : x_27.toInt = t9_c79.toInt + 1 := by rw [ex_27]; exact zi_add (rfl) (by decide) (by omega) (by omega)
                              clear ex_27
                              refine lv_goto (tgt := 79) hx hb dX8_slept_195 (by decide) ?_
                              exact ih79 x_27 t9_c79 x_26 g0_c103 _ _ _ (show 0 ≤ x_27.toInt ∧ x_27.toInt ≤ 8 from by omega) ha_g0_c103 (by omega) (hP.sub [0, 3, 2, 1] rfl) (hD.sub [0, 3, 2, 1] (by decide) rfl) hS (lv_sub hl [0, 2, 1, 5, 6, 7, 8, 9, 10, 11] rfl)
                            · have f_25 : ¬ t10_c103.toInt = 0 := zi_ne c_25
                              refine lv_iconst (v := 1) hx hb dX8_slept_184 (by decide) ?_
                              refine lv_goto (tgt := 189) hx hb dX8_slept_185 (by decide) ?_
                              refine lv_iadd hx hb dX8_slept_189 ?_
                              refine lv_topi (fun x_28 ex_28 => ?_)
                              have e_28 : x_28.toInt = t7_c79.toInt + 1 := by rw [ex_28]; exact zi_add (rfl) (by decide) (by omega) (by omega)
                              clear ex_28
                              refine lv_istore (lv' := [(7, .int x_28), (8, .int t9_c79), (11, .int t11_c103), (10, .int t10_c103), (9, .int t9_c79), (6, .int 0), (0, .ref h), (1, .int v), (2, .int a), (3, .int i), (4, .int n), (5, .int k)]) hx hb dX8_slept_190 hl (by decide) rfl (fun ls hl => ?_)
                              obtain ⟨x_29, ex_29⟩ : ∃ y : Int32, y = t9_c79 + Int32.ofInt 1 := ⟨_, rfl⟩
                              refine lv_iinc (v := x_29) (lv' := [(9, .int x_29), (7, .int x_28), (8, .int t9_c79), (11, .int t11_c103), (10, .int t10_c103), (6, .int 0), (0, .ref h), (1, .int v), (2, .int a), (3, .int i), (4, .int n), (5, .int k)]) hx hb dX8_slept_192 hl (k := 4) rfl ex_29.symm (by decide) rfl (fun ls hl => ?_)
                              have ex_29 : x_29 = t9_c79 + 1 := ex_29
                              have e_29 : x_29.toInt = t9_c79.toInt + 1 := by rw [ex_29]; exact zi_add (rfl) (by decide) (by omega) (by omega)
                              clear ex_29
                              refine lv_goto (tgt := 79) hx hb dX8_slept_195 (by decide) ?_
                              exact ih79 x_29 t9_c79 x_28 g0_c103 _ _ _ (show 0 ≤ x_29.toInt ∧ x_29.toInt ≤ 8 from by omega) ha_g0_c103 (by omega) (hP.sub [0, 3, 2, 1] rfl) (hD.sub [0, 3, 2, 1] (by decide) rfl) hS (lv_sub hl [0, 2, 1, 5, 6, 7, 8, 9, 10, 11] rfl)
                      · have f_12 : ¬ n.toInt ≤ t11_c103.toInt := zi_nle c_12
                        refine lv_aload_n hx hb dX8_slept_110 rfl (lv_at hl 6 rfl) ?_
                        refine lv_bipush (v := 27) hx hb dX8_slept_111 (by decide) ?_
                        refine lv_iload_n hx hb dX8_slept_113 rfl (lv_at hl 7 rfl) ?_
                        have k_30 := (g_X8_day l D cI cB cQ H.size h sl zs ln ir tk tb tr fz na su le fu ap pp tc nm 27 v g0_c103 v0 ha_g0_c103 ⟨by decide, by decide⟩)
                        refine wc_v (WC := [(h, .inr (7, [.ref sl, .int na, .ref zs, .ref ln, .ref ir, .ref tk, .int su, .int le, .ref tb, .int fu, .int ap, .int pp, .ref tr, .int tc, .ref fz, .int nm])), (sl, .inl (cI, 1653, .inl g0_c103))]) (WR := [(ir, .inl (cI, 320, .inl irf)), (zs, .inl (cI, 8, .inl zf))]) (va_runV (As := [.int 27, .int v]) (rest := []) ⟨hx, hb, hml, hown, hts⟩ k_30 (cwV 2 hts gX8_slept_X8_day rfl rfl rfl (by decide +kernel) ⟨Nat.le_of_ble_eq_true rfl, Nat.le_of_ble_eq_true rfl⟩) (wp_V hP hK hD hN [2, 3] (by decide) rfl (ci := 7) rfl rfl) rfl rfl hl.1 rfl (lv_room (Nat.le_of_ble_eq_true rfl)) dX8_slept_114 ⟨Nat.le_of_ble_eq_true rfl, Nat.le_of_ble_eq_true rfl⟩) hP hD hS hA [2, 3] [0, 1] rfl rfl (by decide) (by decide) (fun u_30 H locs hw_30 hP hD hS => ?_)
                        clear k_30
                        have hP : va_P D kl [(ir, .inl (cI, 320, .inl irf)), (zs, .inl (cI, 8, .inl zf)), (h, .inr (7, [.ref sl, .int na, .ref zs, .ref ln, .ref ir, .ref tk, .int su, .int le, .ref tb, .int fu, .int ap, .int pp, .ref tr, .int tc, .ref fz, .int nm])), (sl, .inl (cI, 1653, .inl u_30))] H := hP
                        have hD : va_D A [(ir, .inl (cI, 320, .inl irf)), (zs, .inl (cI, 8, .inl zf)), (h, .inr (7, [.ref sl, .int na, .ref zs, .ref ln, .ref ir, .ref tk, .int su, .int le, .ref tb, .int fu, .int ap, .int pp, .ref tr, .int tc, .ref fz, .int nm])), (sl, .inl (cI, 1653, .inl u_30))] := hD
                        have c30_0 := hw_30
                        have c30_0 : SI u_30 v0 := c30_0
                        refine lv_iload hx hb dX8_slept_117 (lv_at hl 1 rfl) ?_
                        refine lv_if_eq (tgt := 149) hx hb dX8_slept_119 (by decide) (fun c_31 => ?_) (fun c_31 => ?_)
                        · have f_31 : t10_c103.toInt = 0 := zi_eq c_31
                          refine lv_iconst (v := 0) hx hb dX8_slept_149 (by decide) ?_
                          refine lv_istore (lv' := [(10, .int 0), (11, .int t11_c103), (9, .int t9_c79), (8, .int t8_c79), (7, .int t7_c79), (6, .int 0), (0, .ref h), (1, .int v), (2, .int a), (3, .int i), (4, .int n), (5, .int k)]) hx hb dX8_slept_150 hl (by decide) rfl (fun ls hl => ?_)
                          obtain ⟨x_32, ex_32⟩ : ∃ y : Int32, y = t11_c103 + Int32.ofInt 1 := ⟨_, rfl⟩
                          refine lv_iinc (v := x_32) (lv' := [(11, .int x_32), (10, .int 0), (9, .int t9_c79), (8, .int t8_c79), (7, .int t7_c79), (6, .int 0), (0, .ref h), (1, .int v), (2, .int a), (3, .int i), (4, .int n), (5, .int k)]) hx hb dX8_slept_152 hl (k := 1) rfl ex_32.symm (by decide) rfl (fun ls hl => ?_)
                          have ex_32 : x_32 = t11_c103 + 1 := ex_32
                          have e_32 : x_32.toInt = t11_c103.toInt + 1 := by rw [ex_32]; exact zi_add (rfl) (by decide) (by omega) (by omega)
                          clear ex_32
                          refine lv_goto (tgt := 103) hx hb dX8_slept_155 (by decide) ?_
                          exact ih103 x_32 0 u_30 _ _ _ (show 0 ≤ x_32.toInt ∧ x_32.toInt ≤ 12 from by omega) c30_0 (by omega) (hP.sub [0, 1, 2, 3] rfl) (hD.sub [0, 1, 2, 3] (by decide) rfl) hS (lv_sub hl [0, 1, 2, 3, 4, 5, 6, 7, 8, 9, 10, 11] rfl)
                        · have f_31 : ¬ t10_c103.toInt = 0 := zi_ne c_31
                          refine lv_aload_n hx hb dX8_slept_122 rfl (lv_at hl 6 rfl) ?_
                          refine lv_bipush (v := 27) hx hb dX8_slept_123 (by decide) ?_
                          have k_33 := (g_X8_frozen l D cI cB cQ H.size h sl zs ln ir tk tb tr fz na su le fu ap pp tc nm 27 u_30 v0 c30_0 ⟨by decide, by decide⟩)
                          refine wc_i (WC := [(h, .inr (7, [.ref sl, .int na, .ref zs, .ref ln, .ref ir, .ref tk, .int su, .int le, .ref tb, .int fu, .int ap, .int pp, .ref tr, .int tc, .ref fz, .int nm])), (sl, .inl (cI, 1653, .inl u_30))]) (WR := [(ir, .inl (cI, 320, .inl irf)), (zs, .inl (cI, 8, .inl zf))]) (va_runV (As := [.int 27]) (rest := []) ⟨hx, hb, hml, hown, hts⟩ k_33 (cwV 1 hts gX8_slept_X8_frozen rfl rfl rfl (by decide +kernel) ⟨Nat.le_of_ble_eq_true rfl, Nat.le_of_ble_eq_true rfl⟩) (wp_V hP hK hD hN [2, 3] (by decide) rfl (ci := 7) rfl rfl) rfl rfl hl.1 rfl (lv_room (Nat.le_of_ble_eq_true rfl)) dX8_slept_125 ⟨Nat.le_of_ble_eq_true rfl, Nat.le_of_ble_eq_true rfl⟩) hP hD hS hA [2, 3] [0, 1] rfl rfl (by decide) (by decide) (fun r_33 u_33 H locs hw_33 hP hD hS => ?_)
                          clear k_33
                          have hP : va_P D kl [(ir, .inl (cI, 320, .inl irf)), (zs, .inl (cI, 8, .inl zf)), (h, .inr (7, [.ref sl, .int na, .ref zs, .ref ln, .ref ir, .ref tk, .int su, .int le, .ref tb, .int fu, .int ap, .int pp, .ref tr, .int tc, .ref fz, .int nm])), (sl, .inl (cI, 1653, .inl u_30))] H := hP
                          have hD : va_D A [(ir, .inl (cI, 320, .inl irf)), (zs, .inl (cI, 8, .inl zf)), (h, .inr (7, [.ref sl, .int na, .ref zs, .ref ln, .ref ir, .ref tk, .int su, .int le, .ref tb, .int fu, .int ap, .int pp, .ref tr, .int tc, .ref fz, .int nm])), (sl, .inl (cI, 1653, .inl u_30))] := hD
                          clear hw_33
                          refine lv_aload_n hx hb dX8_slept_128 rfl (lv_at hl 6 rfl) ?_
                          refine va_get (D := D) (ci := 7) (v := .ref ir) (C := RX8) (T := TX8) (N := 16) hx hb hts (fun _ h => List.mem_cons_of_mem _ (List.mem_append_right _ h)) hown hK hP 2 rfl rfl 4 (by decide) (hts (.fieldLink RX8 19 "WinterWalkModel" "items" "[I") (List.mem_of_getElem? (i := 6) rfl)) (fun _ h9 => h9) rfl dX8_slept_129 ?_
                          refine lv_bipush (v := 40) hx hb dX8_slept_132 (by decide) ?_
                          refine lv_iload_n hx hb dX8_slept_134 rfl (lv_at hl 8 rfl) ?_
                          refine lv_imul hx hb dX8_slept_135 ?_
                          refine lv_topi (fun x_34 ex_34 => ?_)
                          have e_34 : x_34.toInt = 40 * a.toInt := by rw [ex_34]; exact zi_mul (by decide) (rfl) (by omega) (by omega)
                          clear ex_34
                          refine lv_iload_n hx hb dX8_slept_136 rfl (lv_at hl 9 rfl) ?_
                          refine lv_iadd hx hb dX8_slept_137 ?_
                          refine lv_topi (fun x_35 ex_35 => ?_)
                          have e_35 : x_35.toInt = x_34.toInt + i.toInt := by rw [ex_35]; exact zi_add (rfl) (rfl) (by omega) (by omega)
                          clear ex_35
                          refine lv_iload hx hb dX8_slept_138 (lv_at hl 0 rfl) ?_
                          refine lv_iadd hx hb dX8_slept_140 ?_
                          refine lv_topi (fun x_36 ex_36 => ?_)
                          have e_36 : x_36.toInt = x_35.toInt + t11_c103.toInt := by rw [ex_36]; exact zi_add (rfl) (rfl) (by omega) (by omega)
                          clear ex_36
                          refine va_iald hx hb hK hP 0 0 rfl rfl (zi_in (by omega) (by omega)) dX8_slept_141 ?_
                          refine lv_topi (fun x_37 ex_37 => ?_)
                          clear ex_37
                          refine lv_icmp_ne (tgt := 149) hx hb dX8_slept_142 (by decide) (fun c_38 => ?_) (fun c_38 => ?_)
                          · have f_38 : ¬ r_33.toInt = x_37.toInt := zi_ne c_38
                            refine lv_iconst (v := 0) hx hb dX8_slept_149 (by decide) ?_
                            refine lv_istore (lv' := [(10, .int 0), (11, .int t11_c103), (9, .int t9_c79), (8, .int t8_c79), (7, .int t7_c79), (6, .int 0), (0, .ref h), (1, .int v), (2, .int a), (3, .int i), (4, .int n), (5, .int k)]) hx hb dX8_slept_150 hl (by decide) rfl (fun ls hl => ?_)
                            obtain ⟨x_39, ex_39⟩ : ∃ y : Int32, y = t11_c103 + Int32.ofInt 1 := ⟨_, rfl⟩
                            refine lv_iinc (v := x_39) (lv' := [(11, .int x_39), (10, .int 0), (9, .int t9_c79), (8, .int t8_c79), (7, .int t7_c79), (6, .int 0), (0, .ref h), (1, .int v), (2, .int a), (3, .int i), (4, .int n), (5, .int k)]) hx hb dX8_slept_152 hl (k := 1) rfl ex_39.symm (by decide) rfl (fun ls hl => ?_)
                            have ex_39 : x_39 = t11_c103 + 1 := ex_39
                            have e_39 : x_39.toInt = t11_c103.toInt + 1 := by rw [ex_39]; exact zi_add (rfl) (by decide) (by omega) (by omega)
                            clear ex_39
                            refine lv_goto (tgt := 103) hx hb dX8_slept_155 (by decide) ?_
                            exact ih103 x_39 0 u_30 _ _ _ (show 0 ≤ x_39.toInt ∧ x_39.toInt ≤ 12 from by omega) c30_0 (by omega) (hP.sub [0, 1, 2, 3] rfl) (hD.sub [0, 1, 2, 3] (by decide) rfl) hS (lv_sub hl [0, 1, 2, 3, 4, 5, 6, 7, 8, 9, 10, 11] rfl)
                          · have f_38 : r_33.toInt = x_37.toInt := zi_eq c_38
                            refine lv_iconst (v := 1) hx hb dX8_slept_145 (by decide) ?_
                            refine lv_goto (tgt := 150) hx hb dX8_slept_146 (by decide) ?_
                            refine lv_istore (lv' := [(10, .int 1), (11, .int t11_c103), (9, .int t9_c79), (8, .int t8_c79), (7, .int t7_c79), (6, .int 0), (0, .ref h), (1, .int v), (2, .int a), (3, .int i), (4, .int n), (5, .int k)]) hx hb dX8_slept_150 hl (by decide) rfl (fun ls hl => ?_)
                            obtain ⟨x_40, ex_40⟩ : ∃ y : Int32, y = t11_c103 + Int32.ofInt 1 := ⟨_, rfl⟩
                            refine lv_iinc (v := x_40) (lv' := [(11, .int x_40), (10, .int 1), (9, .int t9_c79), (8, .int t8_c79), (7, .int t7_c79), (6, .int 0), (0, .ref h), (1, .int v), (2, .int a), (3, .int i), (4, .int n), (5, .int k)]) hx hb dX8_slept_152 hl (k := 1) rfl ex_40.symm (by decide) rfl (fun ls hl => ?_)
                            have ex_40 : x_40 = t11_c103 + 1 := ex_40
                            have e_40 : x_40.toInt = t11_c103.toInt + 1 := by rw [ex_40]; exact zi_add (rfl) (by decide) (by omega) (by omega)
                            clear ex_40
                            refine lv_goto (tgt := 103) hx hb dX8_slept_155 (by decide) ?_
                            exact ih103 x_40 1 u_30 _ _ _ (show 0 ≤ x_40.toInt ∧ x_40.toInt ≤ 12 from by omega) c30_0 (by omega) (hP.sub [0, 1, 2, 3] rfl) (hD.sub [0, 1, 2, 3] (by decide) rfl) hS (lv_sub hl [0, 1, 2, 3, 4, 5, 6, 7, 8, 9, 10, 11] rfl)
                  exact hL103 (((n.toInt - (0 : Int32).toInt).toNat) + 1) 0 1 u_11 _ _ _ (show 0 ≤ 0 ∧ 0 ≤ 12 from by omega) c11_0 (Nat.lt_succ_self _) (hP.sub [0, 1, 2, 3] rfl) (hD.sub [0, 1, 2, 3] (by decide) rfl) hS (lv_sub hl [0, 1, 2, 3, 4, 5, 6, 7, 8, 9, 10, 11] rfl)
            exact hL79 (((8 - (0 : Int32).toInt).toNat) + 1) 0 (-1000000) 0 sf _ _ _ (show 0 ≤ 0 ∧ 0 ≤ 8 from by omega) hsi (Nat.lt_succ_self _) (hP.sub [0, 1, 2, 3] rfl) (hD.sub [0, 1, 2, 3] (by decide) rfl) hS (lv_sub hl [0, 1, 2, 3, 4, 5, 6, 7, 8, 9] rfl)
          · subst e_5
            refine lv_istore (lv' := [(6, .int 1), (0, .ref h), (1, .int v), (2, .int a), (3, .int i), (4, .int n), (5, .int k)]) hx hb dX8_slept_55 hl (by decide) rfl (fun ls hl => ?_)
            refine lv_iload hx hb dX8_slept_57 (lv_at hl 0 rfl) ?_
            refine lv_if_le (tgt := 69) hx hb dX8_slept_59 (by decide) (fun c9 => absurd c9 (by decide)) (fun _ => ?_)
            refine lv_aload_n hx hb dX8_slept_62 rfl (lv_at hl 1 rfl) ?_
            refine lv_iload hx hb dX8_slept_63 (lv_at hl 0 rfl) ?_
            have k_41 := (g_X8_finds l D cI cB cQ H.size h sl zs ln ir tk tb tr fz na su le fu ap pp tc nm 1)
            refine wc_i (WC := [(h, .inr (7, [.ref sl, .int na, .ref zs, .ref ln, .ref ir, .ref tk, .int su, .int le, .ref tb, .int fu, .int ap, .int pp, .ref tr, .int tc, .ref fz, .int nm]))]) (WR := [(ir, .inl (cI, 320, .inl irf)), (sl, .inl (cI, 1653, .inl sf)), (zs, .inl (cI, 8, .inl zf))]) (va_runV (As := [.int 1]) (rest := []) ⟨hx, hb, hml, hown, hts⟩ k_41 (cwV 1 hts gX8_slept_X8_finds rfl rfl rfl (by decide +kernel) ⟨Nat.le_of_ble_eq_true rfl, Nat.le_of_ble_eq_true rfl⟩) (wp_V hP hK hD hN [2] (by decide) rfl (ci := 7) rfl rfl) rfl rfl hl.1 rfl (lv_room (Nat.le_of_ble_eq_true rfl)) dX8_slept_65 ⟨Nat.le_of_ble_eq_true rfl, Nat.le_of_ble_eq_true rfl⟩) hP hD hS hA [2] [0, 1, 3] rfl rfl (by decide) (by decide) (fun r_41 u_41 H locs hw_41 hP hD hS => ?_)
            clear k_41
            have hP : va_P D kl [(ir, .inl (cI, 320, .inl irf)), (sl, .inl (cI, 1653, .inl sf)), (zs, .inl (cI, 8, .inl zf)), (h, .inr (7, [.ref sl, .int na, .ref zs, .ref ln, .ref ir, .ref tk, .int u_41, .int le, .ref tb, .int fu, .int ap, .int pp, .ref tr, .int tc, .ref fz, .int nm]))] H := hP
            have hD : va_D A [(ir, .inl (cI, 320, .inl irf)), (sl, .inl (cI, 1653, .inl sf)), (zs, .inl (cI, 8, .inl zf)), (h, .inr (7, [.ref sl, .int na, .ref zs, .ref ln, .ref ir, .ref tk, .int u_41, .int le, .ref tb, .int fu, .int ap, .int pp, .ref tr, .int tc, .ref fz, .int nm]))] := hD
            clear hw_41
            exact wr_i (v := r_41) hx hb hr hlocks hS (sf, u_41) (by exact hsi) (hP.sub [3, 1, 2, 0] rfl) (hD.sub [3, 1, 2, 0] (by decide) rfl) dX8_slept_68
          · subst e_5
            refine lv_istore (lv' := [(6, .int 2), (0, .ref h), (1, .int v), (2, .int a), (3, .int i), (4, .int n), (5, .int k)]) hx hb dX8_slept_55 hl (by decide) rfl (fun ls hl => ?_)
            refine lv_iload hx hb dX8_slept_57 (lv_at hl 0 rfl) ?_
            refine lv_if_le (tgt := 69) hx hb dX8_slept_59 (by decide) (fun c9 => absurd c9 (by decide)) (fun _ => ?_)
            refine lv_aload_n hx hb dX8_slept_62 rfl (lv_at hl 1 rfl) ?_
            refine lv_iload hx hb dX8_slept_63 (lv_at hl 0 rfl) ?_
            have k_42 := (g_X8_finds l D cI cB cQ H.size h sl zs ln ir tk tb tr fz na su le fu ap pp tc nm 2)
            refine wc_i (WC := [(h, .inr (7, [.ref sl, .int na, .ref zs, .ref ln, .ref ir, .ref tk, .int su, .int le, .ref tb, .int fu, .int ap, .int pp, .ref tr, .int tc, .ref fz, .int nm]))]) (WR := [(ir, .inl (cI, 320, .inl irf)), (sl, .inl (cI, 1653, .inl sf)), (zs, .inl (cI, 8, .inl zf))]) (va_runV (As := [.int 2]) (rest := []) ⟨hx, hb, hml, hown, hts⟩ k_42 (cwV 1 hts gX8_slept_X8_finds rfl rfl rfl (by decide +kernel) ⟨Nat.le_of_ble_eq_true rfl, Nat.le_of_ble_eq_true rfl⟩) (wp_V hP hK hD hN [2] (by decide) rfl (ci := 7) rfl rfl) rfl rfl hl.1 rfl (lv_room (Nat.le_of_ble_eq_true rfl)) dX8_slept_65 ⟨Nat.le_of_ble_eq_true rfl, Nat.le_of_ble_eq_true rfl⟩) hP hD hS hA [2] [0, 1, 3] rfl rfl (by decide) (by decide) (fun r_42 u_42 H locs hw_42 hP hD hS => ?_)
            clear k_42
            have hP : va_P D kl [(ir, .inl (cI, 320, .inl irf)), (sl, .inl (cI, 1653, .inl sf)), (zs, .inl (cI, 8, .inl zf)), (h, .inr (7, [.ref sl, .int na, .ref zs, .ref ln, .ref ir, .ref tk, .int u_42, .int le, .ref tb, .int fu, .int ap, .int pp, .ref tr, .int tc, .ref fz, .int nm]))] H := hP
            have hD : va_D A [(ir, .inl (cI, 320, .inl irf)), (sl, .inl (cI, 1653, .inl sf)), (zs, .inl (cI, 8, .inl zf)), (h, .inr (7, [.ref sl, .int na, .ref zs, .ref ln, .ref ir, .ref tk, .int u_42, .int le, .ref tb, .int fu, .int ap, .int pp, .ref tr, .int tc, .ref fz, .int nm]))] := hD
            clear hw_42
            exact wr_i (v := r_42) hx hb hr hlocks hS (sf, u_42) (by exact hsi) (hP.sub [3, 1, 2, 0] rfl) (hD.sub [3, 1, 2, 0] (by decide) rfl) dX8_slept_68
        · subst e_4
          have f_4 : ¬ ((0 : Int) ≤ k.toInt ∧ k.toInt ≤ (1 : Int)) := by
            have h8 := f_4
            try simp only [zl_of] at h8
            exact h8
          refine lv_if_ne (tgt := 47) hx hb dX8_slept_41 (by decide) (fun c9 => absurd (by decide) c9) (fun _ => ?_)
          refine lv_ldc (v := (-1000001)) hx hb hown (hts (.constant RX8 48 (-1000001)) (List.mem_of_getElem? (i := 3) rfl)) dX8_slept_44 ?_
          exact wr_i (v := (-1000001)) hx hb hr hlocks hS (sf, su) (by exact hsi) (hP.sub [2, 3, 0, 1] rfl) (hD.sub [2, 3, 0, 1] (by decide) rfl) dX8_slept_46
      · subst e_3
        have f_3 : ¬ ((1 : Int) ≤ n.toInt ∧ n.toInt ≤ (12 : Int)) := by
          have h8 := f_3
          try simp only [zl_of] at h8
          exact h8
        refine lv_if_eq (tgt := 44) hx hb dX8_slept_30 (by decide) (fun _ => ?_) (fun c9 => absurd (by decide) c9)
        refine lv_ldc (v := (-1000001)) hx hb hown (hts (.constant RX8 48 (-1000001)) (List.mem_of_getElem? (i := 3) rfl)) dX8_slept_44 ?_
        exact wr_i (v := (-1000001)) hx hb hr hlocks hS (sf, su) (by exact hsi) (hP.sub [2, 3, 0, 1] rfl) (hD.sub [2, 3, 0, 1] (by decide) rfl) dX8_slept_46
    · subst e_2
      have f_2 : ¬ ((0 : Int) ≤ a.toInt ∧ a.toInt ≤ (7 : Int)) := by
        have h8 := f_2
        try simp only [zl_of] at h8
        exact h8
      refine lv_if_eq (tgt := 44) hx hb dX8_slept_17 (by decide) (fun _ => ?_) (fun c9 => absurd (by decide) c9)
      refine lv_ldc (v := (-1000001)) hx hb hown (hts (.constant RX8 48 (-1000001)) (List.mem_of_getElem? (i := 3) rfl)) dX8_slept_44 ?_
      exact wr_i (v := (-1000001)) hx hb hr hlocks hS (sf, su) (by exact hsi) (hP.sub [2, 3, 0, 1] rfl) (hD.sub [2, 3, 0, 1] (by decide) rfl) dX8_slept_46
  · subst e_1
    refine lv_if_eq (tgt := 44) hx hb dX8_slept_5 (by decide) (fun _ => ?_) (fun c9 => absurd (by decide) c9)
    refine lv_ldc (v := (-1000001)) hx hb hown (hts (.constant RX8 48 (-1000001)) (List.mem_of_getElem? (i := 3) rfl)) dX8_slept_44 ?_
    exact wr_i (v := (-1000001)) hx hb hr hlocks hS (sf, su) (by exact hsi) (hP.sub [2, 3, 0, 1] rfl) (hD.sub [2, 3, 0, 1] (by decide) rfl) dX8_slept_46
set_option maxHeartbeats 4000000 in
set_option maxRecDepth 100000 in
theorem g_X8_year (l : Launch) (D : va_G) (cI cB cQ : ClassId) (sz : Nat) (h : Nat) (sl : Nat) (zs : Nat) (ln : Nat) (ir : Nat) (tk : Nat) (tb : Nat) (tr : Nat) (fz : Nat) (na : Int32) (su : Int32) (le : Int32) (fu : Int32) (ap : Int32) (pp : Int32) (tc : Int32) (nm : Int32) (n : Int32) (k : Int32) (b : Int32) (sf : Nat → Int32) (v0 : Int) (hsi : SI sf v0) : mi l yX8_year wsX8_year ({ frames := 5, cells := 0, slots := 0, locals := 122 }) D cI cB cQ [.ref h, .int n, .int k, .int b] sz [(h, .inr (7, [.ref sl, .int na, .ref zs, .ref ln, .ref ir, .ref tk, .int su, .int le, .ref tb, .int fu, .int ap, .int pp, .ref tr, .int tc, .ref fz, .int nm])), (sl, .inl (cI, 1653, .inl sf))] (fun (r : Int32) (u : (Nat → Int32)) => (SI u v0)) (fun u => [(h, .inr (7, [.ref sl, .int na, .ref zs, .ref ln, .ref ir, .ref tk, .int su, .int le, .ref tb, .int fu, .int ap, .int pp, .ref tr, .int tc, .ref fz, .int nm])), (sl, .inl (cI, 1653, .inl u))]) 0 0 := by
  refine wm_i (cc := cX8_year) (maxL := 8) (ret := (some .int)) (by decide) rfl (Nat.le_of_ble_eq_true rfl) ?_
  intro p e s m below meth c A ls hx hb hr hml hown hts hlocks hin hP hK hD hN hA hl hS
  have hown : s.vm.findClass RX8 = some m.cls := hown
  have hl : lv_has ls 8 [(0, .ref h), (1, .int n), (2, .int k), (3, .int b)] := hl
  change W p l e ({ frames := 5, cells := 0, slots := 0, locals := 122 }) s m ([.ref h, .int n, .int k, .int b] : List Value).toArray below meth c s.heap [] 0 0 (MQ below (va_Qi (fun (r : Int32) (u : (Nat → Int32)) => (SI u v0)) (fun u t => wb D A ((fun u => [(h, .inr (7, [.ref sl, .int na, .ref zs, .ref ln, .ref ir, .ref tk, .int su, .int le, .ref tb, .int fu, .int ap, .int pp, .ref tr, .int tc, .ref fz, .int nm])), (sl, .inl (cI, 1653, .inl u))]) u) t) A) ([.ref h, .int n, .int k, .int b] : List Value).toArray s 0 0 A) (F0 m 0 ls [])
  refine lv_aload_n hx hb dX8_year_0 rfl (lv_at hl 0 rfl) ?_
  refine va_get (D := D) (ci := 7) (v := .ref sl) (C := RX8) (T := TX8) (N := 16) hx hb hts (fun _ h => List.mem_cons_of_mem _ (List.mem_append_right _ h)) hown hK hP 0 rfl rfl 0 (by decide) (hts (.fieldLink RX8 7 "WinterWalkModel" "slot" "[I") (List.mem_of_getElem? (i := 1) rfl)) (fun _ h9 => h9) rfl dX8_year_1 ?_
  refine lv_iconst (v := 1) hx hb dX8_year_4 (by decide) ?_
  refine va_iald hx hb hK hP 1 0 rfl rfl (zi_in (by decide) (by decide)) dX8_year_5 ?_
  refine lv_topi (fun x_1 ex_1 => ?_)
  have f_1 : 0 ≤ x_1.toInt ∧ x_1.toInt ≤ 8 := by rw [ex_1]; exact si_v hsi (s := 0) (by decide) (by omega)
  have g_1 : x_1.toInt = v0 := by rw [ex_1]; exact hsi.2
  refine lv_if_ne (tgt := 12) hx hb dX8_year_6 (by decide) (fun c_2 => ?_) (fun c_2 => ?_)
  · have f_2 : ¬ x_1.toInt = 0 := zi_ne c_2
    refine lv_iload_n hx hb dX8_year_12 rfl (lv_at hl 1 rfl) ?_
    refine lv_i2l (v := (n.toInt64)) hx hb dX8_year_13 rfl ?_
    refine lv_lconst (v := 0) hx hb dX8_year_14 (by decide) ?_
    refine lv_ldc2 (v := 100) hx hb hown (hts (.constantLong RX8 160 (100)) (List.mem_of_getElem? (i := 3) rfl)) dX8_year_15 ?_
    have k_3 := (g_X8_in l D cI cB cQ s.heap.size (n.toInt64) 0 100)
    refine wc_i (WC := []) (WR := [(h, .inr (7, [.ref sl, .int na, .ref zs, .ref ln, .ref ir, .ref tk, .int su, .int le, .ref tb, .int fu, .int ap, .int pp, .ref tr, .int tc, .ref fz, .int nm])), (sl, .inl (cI, 1653, .inl sf))]) (va_runS (As := [.long (n.toInt64), .long 0, .long 100]) (rest := []) ⟨hx, hb, hml, hown, hts⟩ k_3 (va_cwS 3 hts gX8_year_X8_in rfl rfl rfl (by decide +kernel) ⟨Nat.le_of_ble_eq_true rfl, Nat.le_of_ble_eq_true rfl⟩) (wp_S hP hK hD hN [] (by decide) rfl) rfl rfl hl.1 rfl (lv_room (Nat.le_of_ble_eq_true rfl)) dX8_year_18 ⟨Nat.le_of_ble_eq_true rfl, Nat.le_of_ble_eq_true rfl⟩) hP hD hS hA [] [0, 1] rfl rfl (by decide) (by decide) (fun r_3 u_3 H locs hw_3 hP hD hS => ?_)
    clear k_3
    have hP : va_P D kl [(h, .inr (7, [.ref sl, .int na, .ref zs, .ref ln, .ref ir, .ref tk, .int su, .int le, .ref tb, .int fu, .int ap, .int pp, .ref tr, .int tc, .ref fz, .int nm])), (sl, .inl (cI, 1653, .inl sf))] H := hP
    have hD : va_D A [(h, .inr (7, [.ref sl, .int na, .ref zs, .ref ln, .ref ir, .ref tk, .int su, .int le, .ref tb, .int fu, .int ap, .int pp, .ref tr, .int tc, .ref fz, .int nm])), (sl, .inl (cI, 1653, .inl sf))] := hD
    have c3_0 := hw_3
    rcases c3_0 with ⟨e_3, f_3⟩ | ⟨e_3, f_3⟩
    · subst e_3
      have f_3 : (0 : Int) ≤ n.toInt ∧ n.toInt ≤ (100 : Int) := by
        have h8 := f_3
        try simp only [zl_of] at h8
        exact h8
      refine lv_if_eq (tgt := 46) hx hb dX8_year_21 (by decide) (fun c9 => absurd c9 (by decide)) (fun _ => ?_)
      refine lv_iload_n hx hb dX8_year_24 rfl (lv_at hl 2 rfl) ?_
      refine lv_i2l (v := (k.toInt64)) hx hb dX8_year_25 rfl ?_
      refine lv_lconst (v := 1) hx hb dX8_year_26 (by decide) ?_
      refine lv_ldc2 (v := 999999) hx hb hown (hts (.constantLong RX8 199 (999999)) (List.mem_of_getElem? (i := 4) rfl)) dX8_year_27 ?_
      have k_4 := (g_X8_in l D cI cB cQ H.size (k.toInt64) 1 999999)
      refine wc_i (WC := []) (WR := [(h, .inr (7, [.ref sl, .int na, .ref zs, .ref ln, .ref ir, .ref tk, .int su, .int le, .ref tb, .int fu, .int ap, .int pp, .ref tr, .int tc, .ref fz, .int nm])), (sl, .inl (cI, 1653, .inl sf))]) (va_runS (As := [.long (k.toInt64), .long 1, .long 999999]) (rest := []) ⟨hx, hb, hml, hown, hts⟩ k_4 (va_cwS 3 hts gX8_year_X8_in rfl rfl rfl (by decide +kernel) ⟨Nat.le_of_ble_eq_true rfl, Nat.le_of_ble_eq_true rfl⟩) (wp_S hP hK hD hN [] (by decide) rfl) rfl rfl hl.1 rfl (lv_room (Nat.le_of_ble_eq_true rfl)) dX8_year_30 ⟨Nat.le_of_ble_eq_true rfl, Nat.le_of_ble_eq_true rfl⟩) hP hD hS hA [] [0, 1] rfl rfl (by decide) (by decide) (fun r_4 u_4 H locs hw_4 hP hD hS => ?_)
      clear k_4
      have hP : va_P D kl [(h, .inr (7, [.ref sl, .int na, .ref zs, .ref ln, .ref ir, .ref tk, .int su, .int le, .ref tb, .int fu, .int ap, .int pp, .ref tr, .int tc, .ref fz, .int nm])), (sl, .inl (cI, 1653, .inl sf))] H := hP
      have hD : va_D A [(h, .inr (7, [.ref sl, .int na, .ref zs, .ref ln, .ref ir, .ref tk, .int su, .int le, .ref tb, .int fu, .int ap, .int pp, .ref tr, .int tc, .ref fz, .int nm])), (sl, .inl (cI, 1653, .inl sf))] := hD
      have c4_0 := hw_4
      rcases c4_0 with ⟨e_4, f_4⟩ | ⟨e_4, f_4⟩
      · subst e_4
        have f_4 : (1 : Int) ≤ k.toInt ∧ k.toInt ≤ (999999 : Int) := by
          have h8 := f_4
          try simp only [zl_of] at h8
          exact h8
        refine lv_if_eq (tgt := 46) hx hb dX8_year_33 (by decide) (fun c9 => absurd c9 (by decide)) (fun _ => ?_)
        refine lv_iload_n hx hb dX8_year_36 rfl (lv_at hl 3 rfl) ?_
        refine lv_i2l (v := (b.toInt64)) hx hb dX8_year_37 rfl ?_
        refine lv_lconst (v := 0) hx hb dX8_year_38 (by decide) ?_
        refine lv_lconst (v := 1) hx hb dX8_year_39 (by decide) ?_
        have k_5 := (g_X8_in l D cI cB cQ H.size (b.toInt64) 0 1)
        refine wc_i (WC := []) (WR := [(h, .inr (7, [.ref sl, .int na, .ref zs, .ref ln, .ref ir, .ref tk, .int su, .int le, .ref tb, .int fu, .int ap, .int pp, .ref tr, .int tc, .ref fz, .int nm])), (sl, .inl (cI, 1653, .inl sf))]) (va_runS (As := [.long (b.toInt64), .long 0, .long 1]) (rest := []) ⟨hx, hb, hml, hown, hts⟩ k_5 (va_cwS 3 hts gX8_year_X8_in rfl rfl rfl (by decide +kernel) ⟨Nat.le_of_ble_eq_true rfl, Nat.le_of_ble_eq_true rfl⟩) (wp_S hP hK hD hN [] (by decide) rfl) rfl rfl hl.1 rfl (lv_room (Nat.le_of_ble_eq_true rfl)) dX8_year_40 ⟨Nat.le_of_ble_eq_true rfl, Nat.le_of_ble_eq_true rfl⟩) hP hD hS hA [] [0, 1] rfl rfl (by decide) (by decide) (fun r_5 u_5 H locs hw_5 hP hD hS => ?_)
        clear k_5
        have hP : va_P D kl [(h, .inr (7, [.ref sl, .int na, .ref zs, .ref ln, .ref ir, .ref tk, .int su, .int le, .ref tb, .int fu, .int ap, .int pp, .ref tr, .int tc, .ref fz, .int nm])), (sl, .inl (cI, 1653, .inl sf))] H := hP
        have hD : va_D A [(h, .inr (7, [.ref sl, .int na, .ref zs, .ref ln, .ref ir, .ref tk, .int su, .int le, .ref tb, .int fu, .int ap, .int pp, .ref tr, .int tc, .ref fz, .int nm])), (sl, .inl (cI, 1653, .inl sf))] := hD
        have c5_0 := hw_5
        rcases c5_0 with ⟨e_5, f_5⟩ | ⟨e_5, f_5⟩
        · subst e_5
          have f_5 : (0 : Int) ≤ b.toInt ∧ b.toInt ≤ (1 : Int) := by
            have h8 := f_5
            try simp only [zl_of] at h8
            exact h8
          refine lv_if_ne (tgt := 49) hx hb dX8_year_43 (by decide) (fun _ => ?_) (fun c9 => absurd c9 (by decide))
          refine lv_aload_n hx hb dX8_year_49 rfl (lv_at hl 0 rfl) ?_
          refine lv_iconst (v := 0) hx hb dX8_year_50 (by decide) ?_
          refine lv_bipush (v := 27) hx hb dX8_year_51 (by decide) ?_
          have k_6 := (g_X8_copies l D cI cB cQ H.size h sl zs ln ir tk tb tr fz na su le fu ap pp tc nm 0 27 sf v0 hsi ⟨by decide, by decide⟩ ⟨by decide, by decide⟩)
          refine wc_v (WC := [(h, .inr (7, [.ref sl, .int na, .ref zs, .ref ln, .ref ir, .ref tk, .int su, .int le, .ref tb, .int fu, .int ap, .int pp, .ref tr, .int tc, .ref fz, .int nm])), (sl, .inl (cI, 1653, .inl sf))]) (WR := []) (va_runV (As := [.int 0, .int 27]) (rest := []) ⟨hx, hb, hml, hown, hts⟩ k_6 (cwV 2 hts gX8_year_X8_copies rfl rfl rfl (by decide +kernel) ⟨Nat.le_of_ble_eq_true rfl, Nat.le_of_ble_eq_true rfl⟩) (wp_V hP hK hD hN [0, 1] (by decide) rfl (ci := 7) rfl rfl) rfl rfl hl.1 rfl (lv_room (Nat.le_of_ble_eq_true rfl)) dX8_year_53 ⟨Nat.le_of_ble_eq_true rfl, Nat.le_of_ble_eq_true rfl⟩) hP hD hS hA [0, 1] [] rfl rfl (by decide) (by decide) (fun u_6 H locs hw_6 hP hD hS => ?_)
          clear k_6
          have hP : va_P D kl [(h, .inr (7, [.ref sl, .int na, .ref zs, .ref ln, .ref ir, .ref tk, .int su, .int le, .ref tb, .int fu, .int ap, .int pp, .ref tr, .int tc, .ref fz, .int nm])), (sl, .inl (cI, 1653, .inl u_6))] H := hP
          have hD : va_D A [(h, .inr (7, [.ref sl, .int na, .ref zs, .ref ln, .ref ir, .ref tk, .int su, .int le, .ref tb, .int fu, .int ap, .int pp, .ref tr, .int tc, .ref fz, .int nm])), (sl, .inl (cI, 1653, .inl u_6))] := hD
          have c6_0 := hw_6
          have c6_0 : SI u_6 v0 := c6_0
          refine lv_iload_n hx hb dX8_year_56 rfl (lv_at hl 2 rfl) ?_
          refine lv_i2l (v := (k.toInt64)) hx hb dX8_year_57 rfl ?_
          refine lv_lstore (lv' := [(4, .long (k.toInt64)), (0, .ref h), (1, .int n), (2, .int k), (3, .int b)]) hx hb dX8_year_58 hl (by decide) rfl (fun ls hl => ?_)
          refine lv_iconst (v := 0) hx hb dX8_year_60 (by decide) ?_
          refine lv_istore (lv' := [(6, .int 0), (4, .long (k.toInt64)), (0, .ref h), (1, .int n), (2, .int k), (3, .int b)]) hx hb dX8_year_61 hl (by decide) rfl (fun ls hl => ?_)
          have hL63 : ∀ (nf : Nat) (t6_c63 : Int32) (t4_c63 : Int64) (g0_c63 : Nat → Int32) (H : Heap) (locs : List Loc) (ls : Array Slot), (0 ≤ t6_c63.toInt ∧ t6_c63.toInt ≤ 100) → (SI g0_c63 v0) → (n.toInt - t6_c63.toInt).toNat < nf → va_P D kl [(h, .inr (7, [.ref sl, .int na, .ref zs, .ref ln, .ref ir, .ref tk, .int su, .int le, .ref tb, .int fu, .int ap, .int pp, .ref tr, .int tc, .ref fz, .int nm])), (sl, .inl (cI, 1653, .inl g0_c63))] H → va_D A [(h, .inr (7, [.ref sl, .int na, .ref zs, .ref ln, .ref ir, .ref tk, .int su, .int le, .ref tb, .int fu, .int ap, .int pp, .ref tr, .int tc, .ref fz, .int nm])), (sl, .inl (cI, 1653, .inl g0_c63))] → va_S A s.heap H locs → lv_has ls 8 [(6, .int t6_c63), (4, .long t4_c63), (0, .ref h), (1, .int n), (2, .int k), (3, .int b)] → W p l e ({ frames := 5, cells := 0, slots := 0, locals := 122 }) s m ([.ref h, .int n, .int k, .int b] : List Value).toArray below meth c H locs 0 0 (MQ below (va_Qi (fun (r : Int32) (u : (Nat → Int32)) => (SI u v0)) (fun u t => wb D A ((fun u => [(h, .inr (7, [.ref sl, .int na, .ref zs, .ref ln, .ref ir, .ref tk, .int su, .int le, .ref tb, .int fu, .int ap, .int pp, .ref tr, .int tc, .ref fz, .int nm])), (sl, .inl (cI, 1653, .inl u))]) u) t) A) ([.ref h, .int n, .int k, .int b] : List Value).toArray s 0 0 A) (F0 m 63 ls []) := by
            intro nf
            induction nf with
            | zero =>
              intro t6_c63 t4_c63 g0_c63 H locs ls i_t6_c63 ha_g0_c63 hm
              exact absurd hm (Nat.not_lt_zero _)
            | succ nf ih63 =>
              intro t6_c63 t4_c63 g0_c63 H locs ls i_t6_c63 ha_g0_c63 hm63 hP hD hS hl
              refine lv_iload hx hb dX8_year_63 (lv_at hl 0 rfl) ?_
              refine lv_iload_n hx hb dX8_year_65 rfl (lv_at hl 3 rfl) ?_
              refine lv_icmp_ge (tgt := 135) hx hb dX8_year_66 (by decide) (fun c_7 => ?_) (fun c_7 => ?_)
              · have f_7 : n.toInt ≤ t6_c63.toInt := zi_le c_7
                refine lv_iconst (v := 0) hx hb dX8_year_135 (by decide) ?_
                refine lv_istore (lv' := [(6, .int 0), (4, .long t4_c63), (0, .ref h), (1, .int n), (2, .int k), (3, .int b)]) hx hb dX8_year_136 hl (by decide) rfl (fun ls hl => ?_)
                refine lv_iconst (v := 1) hx hb dX8_year_138 (by decide) ?_
                refine lv_istore (lv' := [(7, .int 1), (6, .int 0), (4, .long t4_c63), (0, .ref h), (1, .int n), (2, .int k), (3, .int b)]) hx hb dX8_year_139 hl (by decide) rfl (fun ls hl => ?_)
                have hL141 : ∀ (nf : Nat) (t7_c141 : Int32) (t6_c141 : Int32) (H : Heap) (locs : List Loc) (ls : Array Slot), (1 ≤ t7_c141.toInt ∧ t7_c141.toInt ≤ 8) → (0 ≤ t6_c141.toInt ∧ t6_c141.toInt ≤ 7) → (8 - t7_c141.toInt).toNat < nf → va_P D kl [(h, .inr (7, [.ref sl, .int na, .ref zs, .ref ln, .ref ir, .ref tk, .int su, .int le, .ref tb, .int fu, .int ap, .int pp, .ref tr, .int tc, .ref fz, .int nm])), (sl, .inl (cI, 1653, .inl g0_c63))] H → va_D A [(h, .inr (7, [.ref sl, .int na, .ref zs, .ref ln, .ref ir, .ref tk, .int su, .int le, .ref tb, .int fu, .int ap, .int pp, .ref tr, .int tc, .ref fz, .int nm])), (sl, .inl (cI, 1653, .inl g0_c63))] → va_S A s.heap H locs → lv_has ls 8 [(7, .int t7_c141), (6, .int t6_c141), (4, .long t4_c63), (0, .ref h), (1, .int n), (2, .int k), (3, .int b)] → W p l e ({ frames := 5, cells := 0, slots := 0, locals := 122 }) s m ([.ref h, .int n, .int k, .int b] : List Value).toArray below meth c H locs 0 0 (MQ below (va_Qi (fun (r : Int32) (u : (Nat → Int32)) => (SI u v0)) (fun u t => wb D A ((fun u => [(h, .inr (7, [.ref sl, .int na, .ref zs, .ref ln, .ref ir, .ref tk, .int su, .int le, .ref tb, .int fu, .int ap, .int pp, .ref tr, .int tc, .ref fz, .int nm])), (sl, .inl (cI, 1653, .inl u))]) u) t) A) ([.ref h, .int n, .int k, .int b] : List Value).toArray s 0 0 A) (F0 m 141 ls []) := by
                  intro nf
                  induction nf with
                  | zero =>
                    intro t7_c141 t6_c141 H locs ls i_t7_c141 i_t6_c141 hm
                    exact absurd hm (Nat.not_lt_zero _)
                  | succ nf ih141 =>
                    intro t7_c141 t6_c141 H locs ls i_t7_c141 i_t6_c141 hm141 hP hD hS hl
                    refine lv_iload hx hb dX8_year_141 (lv_at hl 0 rfl) ?_
                    refine lv_aload_n hx hb dX8_year_143 rfl (lv_at hl 3 rfl) ?_
                    refine va_get (D := D) (ci := 7) (v := .ref sl) (C := RX8) (T := TX8) (N := 16) hx hb hts (fun _ h => List.mem_cons_of_mem _ (List.mem_append_right _ h)) hown hK hP 0 rfl rfl 0 (by decide) (hts (.fieldLink RX8 7 "WinterWalkModel" "slot" "[I") (List.mem_of_getElem? (i := 1) rfl)) (fun _ h9 => h9) rfl dX8_year_144 ?_
                    refine lv_iconst (v := 1) hx hb dX8_year_147 (by decide) ?_
                    refine va_iald hx hb hK hP 1 0 rfl rfl (zi_in (by decide) (by decide)) dX8_year_148 ?_
                    refine lv_topi (fun x_8 ex_8 => ?_)
                    have f_8 : 0 ≤ x_8.toInt ∧ x_8.toInt ≤ 8 := by rw [ex_8]; exact si_v ha_g0_c63 (s := 0) (by decide) (by omega)
                    have g_8 : x_8.toInt = v0 := by rw [ex_8]; exact ha_g0_c63.2
                    refine lv_icmp_ge (tgt := 192) hx hb dX8_year_149 (by decide) (fun c_9 => ?_) (fun c_9 => ?_)
                    · have f_9 : x_8.toInt ≤ t7_c141.toInt := zi_le c_9
                      refine lv_iload_n hx hb dX8_year_192 rfl (lv_at hl 6 rfl) ?_
                      refine lv_if_ne (tgt := 215) hx hb dX8_year_193 (by decide) (fun c_10 => ?_) (fun c_10 => ?_)
                      · have f_10 : ¬ b.toInt = 0 := zi_ne c_10
                        refine lv_iload hx hb dX8_year_215 (lv_at hl 1 rfl) ?_
                        exact wr_i (v := t6_c141) hx hb hr hlocks hS g0_c63 (by exact ha_g0_c63) (hP.sub [0, 1] rfl) (hD.sub [0, 1] (by decide) rfl) dX8_year_217
                      · have f_10 : b.toInt = 0 := zi_eq c_10
                        refine lv_aload_n hx hb dX8_year_196 rfl (lv_at hl 3 rfl) ?_
                        refine va_get (D := D) (ci := 7) (v := .ref sl) (C := RX8) (T := TX8) (N := 16) hx hb hts (fun _ h => List.mem_cons_of_mem _ (List.mem_append_right _ h)) hown hK hP 0 rfl rfl 0 (by decide) (hts (.fieldLink RX8 7 "WinterWalkModel" "slot" "[I") (List.mem_of_getElem? (i := 1) rfl)) (fun _ h9 => h9) rfl dX8_year_197 ?_
                        refine lv_sipush (v := 1594) hx hb dX8_year_200 (by decide) ?_
                        refine va_iald hx hb hK hP 1 0 rfl rfl (zi_in (by decide) (by decide)) dX8_year_203 ?_
                        refine lv_topi (fun x_11 ex_11 => ?_)
                        refine lv_aload_n hx hb dX8_year_204 rfl (lv_at hl 3 rfl) ?_
                        refine va_get (D := D) (ci := 7) (v := .ref sl) (C := RX8) (T := TX8) (N := 16) hx hb hts (fun _ h => List.mem_cons_of_mem _ (List.mem_append_right _ h)) hown hK hP 0 rfl rfl 0 (by decide) (hts (.fieldLink RX8 7 "WinterWalkModel" "slot" "[I") (List.mem_of_getElem? (i := 1) rfl)) (fun _ h9 => h9) rfl dX8_year_205 ?_
                        refine lv_bipush (v := 55) hx hb dX8_year_208 (by decide) ?_
                        refine va_iald hx hb hK hP 1 0 rfl rfl (zi_in (by decide) (by decide)) dX8_year_210 ?_
                        refine lv_topi (fun x_12 ex_12 => ?_)
                        refine lv_isub hx hb dX8_year_211 ?_
                        refine lv_topi (fun x_13 ex_13 => ?_)
                        clear ex_13
                        refine lv_goto (tgt := 217) hx hb dX8_year_212 (by decide) ?_
                        exact wr_i (v := x_13) hx hb hr hlocks hS g0_c63 (by exact ha_g0_c63) (hP.sub [0, 1] rfl) (hD.sub [0, 1] (by decide) rfl) dX8_year_217
                    · have f_9 : ¬ x_8.toInt ≤ t7_c141.toInt := zi_nle c_9
                      refine lv_aload_n hx hb dX8_year_152 rfl (lv_at hl 3 rfl) ?_
                      refine va_get (D := D) (ci := 7) (v := .ref sl) (C := RX8) (T := TX8) (N := 16) hx hb hts (fun _ h => List.mem_cons_of_mem _ (List.mem_append_right _ h)) hown hK hP 0 rfl rfl 0 (by decide) (hts (.fieldLink RX8 7 "WinterWalkModel" "slot" "[I") (List.mem_of_getElem? (i := 1) rfl)) (fun _ h9 => h9) rfl dX8_year_153 ?_
                      refine lv_sipush (v := 1579) hx hb dX8_year_156 (by decide) ?_
                      refine lv_iload hx hb dX8_year_159 (lv_at hl 0 rfl) ?_
                      refine lv_iadd hx hb dX8_year_161 ?_
                      refine lv_topi (fun x_14 ex_14 => ?_)
                      have e_14 : x_14.toInt = 1579 + t7_c141.toInt := by rw [ex_14]; exact zi_add (by decide) (rfl) (by omega) (by omega)
                      clear ex_14
                      refine va_iald hx hb hK hP 1 0 rfl rfl (zi_in (by omega) (by omega)) dX8_year_162 ?_
                      refine lv_topi (fun x_15 ex_15 => ?_)
                      clear ex_15
                      refine lv_aload_n hx hb dX8_year_163 rfl (lv_at hl 3 rfl) ?_
                      refine va_get (D := D) (ci := 7) (v := .ref sl) (C := RX8) (T := TX8) (N := 16) hx hb hts (fun _ h => List.mem_cons_of_mem _ (List.mem_append_right _ h)) hown hK hP 0 rfl rfl 0 (by decide) (hts (.fieldLink RX8 7 "WinterWalkModel" "slot" "[I") (List.mem_of_getElem? (i := 1) rfl)) (fun _ h9 => h9) rfl dX8_year_164 ?_
                      refine lv_sipush (v := 1579) hx hb dX8_year_167 (by decide) ?_
                      refine lv_iload hx hb dX8_year_170 (lv_at hl 1 rfl) ?_
                      refine lv_iadd hx hb dX8_year_172 ?_
                      refine lv_topi (fun x_16 ex_16 => ?_)
                      have e_16 : x_16.toInt = 1579 + t6_c141.toInt := by rw [ex_16]; exact zi_add (by decide) (rfl) (by omega) (by omega)
                      clear ex_16
                      refine va_iald hx hb hK hP 1 0 rfl rfl (zi_in (by omega) (by omega)) dX8_year_173 ?_
                      refine lv_topi (fun x_17 ex_17 => ?_)
                      clear ex_17
                      refine lv_icmp_le (tgt := 182) hx hb dX8_year_174 (by decide) (fun c_18 => ?_) (fun c_18 => ?_)
                      · have f_18 : x_15.toInt ≤ x_17.toInt := zi_le c_18
                        refine lv_iload hx hb dX8_year_182 (lv_at hl 1 rfl) ?_
                        refine lv_istore (lv' := [(6, .int t6_c141), (7, .int t7_c141), (4, .long t4_c63), (0, .ref h), (1, .int n), (2, .int k), (3, .int b)]) hx hb dX8_year_184 hl (by decide) rfl (fun ls hl => ?_)
                        obtain ⟨x_19, ex_19⟩ : ∃ y : Int32, y = t7_c141 + Int32.ofInt 1 := ⟨_, rfl⟩
                        refine lv_iinc (v := x_19) (lv' := [(7, .int x_19), (6, .int t6_c141), (4, .long t4_c63), (0, .ref h), (1, .int n), (2, .int k), (3, .int b)]) hx hb dX8_year_186 hl (k := 1) rfl ex_19.symm (by decide) rfl (fun ls hl => ?_)
                        have ex_19 : x_19 = t7_c141 + 1 := ex_19
                        have e_19 : x_19.toInt = t7_c141.toInt + 1 := by rw [ex_19]; exact zi_add (rfl) (by decide) (by omega) (by omega)
                        clear ex_19
                        refine lv_goto (tgt := 141) hx hb dX8_year_189 (by decide) ?_
                        exact ih141 x_19 t6_c141 _ _ _ (show 1 ≤ x_19.toInt ∧ x_19.toInt ≤ 8 from by omega) (show 0 ≤ t6_c141.toInt ∧ t6_c141.toInt ≤ 7 from by omega) (by omega) (hP.sub [0, 1] rfl) (hD.sub [0, 1] (by decide) rfl) hS (lv_sub hl [0, 1, 2, 3, 4, 5, 6] rfl)
                      · have f_18 : ¬ x_15.toInt ≤ x_17.toInt := zi_nle c_18
                        refine lv_iload hx hb dX8_year_177 (lv_at hl 0 rfl) ?_
                        refine lv_goto (tgt := 184) hx hb dX8_year_179 (by decide) ?_
                        refine lv_istore (lv' := [(6, .int t7_c141), (7, .int t7_c141), (4, .long t4_c63), (0, .ref h), (1, .int n), (2, .int k), (3, .int b)]) hx hb dX8_year_184 hl (by decide) rfl (fun ls hl => ?_)
                        obtain ⟨x_20, ex_20⟩ : ∃ y : Int32, y = t7_c141 + Int32.ofInt 1 := ⟨_, rfl⟩
                        refine lv_iinc (v := x_20) (lv' := [(7, .int x_20), (6, .int t7_c141), (4, .long t4_c63), (0, .ref h), (1, .int n), (2, .int k), (3, .int b)]) hx hb dX8_year_186 hl (k := 1) rfl ex_20.symm (by decide) rfl (fun ls hl => ?_)
                        have ex_20 : x_20 = t7_c141 + 1 := ex_20
                        have e_20 : x_20.toInt = t7_c141.toInt + 1 := by rw [ex_20]; exact zi_add (rfl) (by decide) (by omega) (by omega)
                        clear ex_20
                        refine lv_goto (tgt := 141) hx hb dX8_year_189 (by decide) ?_
                        exact ih141 x_20 t7_c141 _ _ _ (show 1 ≤ x_20.toInt ∧ x_20.toInt ≤ 8 from by omega) (show 0 ≤ t7_c141.toInt ∧ t7_c141.toInt ≤ 7 from by omega) (by omega) (hP.sub [0, 1] rfl) (hD.sub [0, 1] (by decide) rfl) hS (lv_sub hl [0, 1, 2, 3, 4, 5, 6] rfl)
                exact hL141 (((8 - (1 : Int32).toInt).toNat) + 1) 1 0 _ _ _ (show 1 ≤ 1 ∧ 1 ≤ 8 from by omega) (show 0 ≤ 0 ∧ 0 ≤ 7 from by omega) (Nat.lt_succ_self _) (hP.sub [0, 1] rfl) (hD.sub [0, 1] (by decide) rfl) hS (lv_sub hl [0, 1, 2, 3, 4, 5, 6] rfl)
              · have f_7 : ¬ n.toInt ≤ t6_c63.toInt := zi_nle c_7
                refine lv_lload hx hb dX8_year_69 (lv_at hl 1 rfl) ?_
                refine lv_ldc2 (v := 16807) hx hb hown (hts (.constantLong RX8 201 (16807)) (List.mem_of_getElem? (i := 6) rfl)) dX8_year_71 ?_
                refine lv_lmul hx hb dX8_year_74 ?_
                refine lv_topl (fun x_21 ex_21 => ?_)
                clear ex_21
                refine lv_ldc2 (v := 2147483647) hx hb hown (hts (.constantLong RX8 203 (2147483647)) (List.mem_of_getElem? (i := 7) rfl)) dX8_year_75 ?_
                refine lv_lrem hx hb dX8_year_78 (by decide) ?_
                refine lv_topl (fun x_22 ex_22 => ?_)
                clear ex_22
                refine lv_lstore (lv' := [(4, .long x_22), (6, .int t6_c63), (0, .ref h), (1, .int n), (2, .int k), (3, .int b)]) hx hb dX8_year_79 hl (by decide) rfl (fun ls hl => ?_)
                refine lv_iconst (v := 1) hx hb dX8_year_81 (by decide) ?_
                refine lv_lload hx hb dX8_year_82 (lv_at hl 0 rfl) ?_
                refine lv_aload_n hx hb dX8_year_84 rfl (lv_at hl 2 rfl) ?_
                refine va_get (D := D) (ci := 7) (v := .ref sl) (C := RX8) (T := TX8) (N := 16) hx hb hts (fun _ h => List.mem_cons_of_mem _ (List.mem_append_right _ h)) hown hK hP 0 rfl rfl 0 (by decide) (hts (.fieldLink RX8 7 "WinterWalkModel" "slot" "[I") (List.mem_of_getElem? (i := 1) rfl)) (fun _ h9 => h9) rfl dX8_year_85 ?_
                refine lv_iconst (v := 1) hx hb dX8_year_88 (by decide) ?_
                refine va_iald hx hb hK hP 1 0 rfl rfl (zi_in (by decide) (by decide)) dX8_year_89 ?_
                refine lv_topi (fun x_23 ex_23 => ?_)
                have f_23 : 0 ≤ x_23.toInt ∧ x_23.toInt ≤ 8 := by rw [ex_23]; exact si_v ha_g0_c63 (s := 0) (by decide) (by omega)
                have g_23 : x_23.toInt = v0 := by rw [ex_23]; exact ha_g0_c63.2
                refine lv_i2l (v := (x_23.toInt64)) hx hb dX8_year_90 rfl ?_
                refine lv_lrem hx hb dX8_year_91 (zl_nz (by rw [zl_of]; omega)) ?_
                refine lv_topl (fun x_24 ex_24 => ?_)
                clear ex_24
                obtain ⟨x_25, ex_25⟩ : ∃ q, (x_24 : Int64).toInt32 = q := ⟨_, rfl⟩
                refine lv_l2i hx hb dX8_year_92 ex_25 ?_
                refine lv_ishl hx hb dX8_year_93 ?_
                refine lv_topi (fun x_26 ex_26 => ?_)
                clear ex_26
                refine lv_istore (lv' := [(7, .int x_26), (4, .long x_22), (6, .int t6_c63), (0, .ref h), (1, .int n), (2, .int k), (3, .int b)]) hx hb dX8_year_94 hl (by decide) rfl (fun ls hl => ?_)
                refine lv_aload_n hx hb dX8_year_96 rfl (lv_at hl 3 rfl) ?_
                refine va_get (D := D) (ci := 7) (v := .ref sl) (C := RX8) (T := TX8) (N := 16) hx hb hts (fun _ h => List.mem_cons_of_mem _ (List.mem_append_right _ h)) hown hK hP 0 rfl rfl 0 (by decide) (hts (.fieldLink RX8 7 "WinterWalkModel" "slot" "[I") (List.mem_of_getElem? (i := 1) rfl)) (fun _ h9 => h9) rfl dX8_year_97 ?_
                refine lv_sipush (v := 1570) hx hb dX8_year_100 (by decide) ?_
                refine lv_dup2_11 hx hb dX8_year_103 rfl rfl ?_
                refine va_iald hx hb hK hP 1 0 rfl rfl (zi_in (by decide) (by decide)) dX8_year_104 ?_
                refine lv_topi (fun x_27 ex_27 => ?_)
                refine lv_iload hx hb dX8_year_105 (lv_at hl 0 rfl) ?_
                refine lv_ixor hx hb dX8_year_107 ?_
                refine lv_topi (fun x_28 ex_28 => ?_)
                clear ex_28
                refine va_iast hx hb hK hP hD hS 1 0 rfl rfl (zi_in (by decide) (by decide)) dX8_year_108 (fun H locs hP hD hS => ?_)
                have hP : va_P D kl [(h, .inr (7, [.ref sl, .int na, .ref zs, .ref ln, .ref ir, .ref tk, .int su, .int le, .ref tb, .int fu, .int ap, .int pp, .ref tr, .int tc, .ref fz, .int nm])), (sl, .inl (cI, 1653, .inl (upd g0_c63 (1570 : Int32).toNatClampNeg x_28)))] H := hP
                have hD : va_D A [(h, .inr (7, [.ref sl, .int na, .ref zs, .ref ln, .ref ir, .ref tk, .int su, .int le, .ref tb, .int fu, .int ap, .int pp, .ref tr, .int tc, .ref fz, .int nm])), (sl, .inl (cI, 1653, .inl (upd g0_c63 (1570 : Int32).toNatClampNeg x_28)))] := hD
                have hq_29 : (1570 : Int32).toInt = 1570 := by decide
                have ha_29 : SI (upd g0_c63 (1570 : Int32).toNatClampNeg x_28) v0 := si_up ha_g0_c63 (by omega) (fun s0 a0 b0 e0 => by omega) (fun s0 a0 b0 e0 => by omega) (fun s0 k0 a0 b0 c0 d0 e0 => by omega) (by omega)
                refine lv_aload_n hx hb dX8_year_109 rfl (lv_at hl 3 rfl) ?_
                refine lv_bipush (v := 27) hx hb dX8_year_110 (by decide) ?_
                refine lv_iconst (v := (-1)) hx hb dX8_year_112 (by decide) ?_
                have k_30 := (g_X8_day l D cI cB cQ H.size h sl zs ln ir tk tb tr fz na su le fu ap pp tc nm 27 (-1) (upd g0_c63 (1570 : Int32).toNatClampNeg x_28) v0 ha_29 ⟨by decide, by decide⟩)
                refine wc_v (WC := [(h, .inr (7, [.ref sl, .int na, .ref zs, .ref ln, .ref ir, .ref tk, .int su, .int le, .ref tb, .int fu, .int ap, .int pp, .ref tr, .int tc, .ref fz, .int nm])), (sl, .inl (cI, 1653, .inl (upd g0_c63 (1570 : Int32).toNatClampNeg x_28)))]) (WR := []) (va_runV (As := [.int 27, .int (-1)]) (rest := []) ⟨hx, hb, hml, hown, hts⟩ k_30 (cwV 2 hts gX8_year_X8_day rfl rfl rfl (by decide +kernel) ⟨Nat.le_of_ble_eq_true rfl, Nat.le_of_ble_eq_true rfl⟩) (wp_V hP hK hD hN [0, 1] (by decide) rfl (ci := 7) rfl rfl) rfl rfl hl.1 rfl (lv_room (Nat.le_of_ble_eq_true rfl)) dX8_year_113 ⟨Nat.le_of_ble_eq_true rfl, Nat.le_of_ble_eq_true rfl⟩) hP hD hS hA [0, 1] [] rfl rfl (by decide) (by decide) (fun u_30 H locs hw_30 hP hD hS => ?_)
                clear k_30
                have hP : va_P D kl [(h, .inr (7, [.ref sl, .int na, .ref zs, .ref ln, .ref ir, .ref tk, .int su, .int le, .ref tb, .int fu, .int ap, .int pp, .ref tr, .int tc, .ref fz, .int nm])), (sl, .inl (cI, 1653, .inl u_30))] H := hP
                have hD : va_D A [(h, .inr (7, [.ref sl, .int na, .ref zs, .ref ln, .ref ir, .ref tk, .int su, .int le, .ref tb, .int fu, .int ap, .int pp, .ref tr, .int tc, .ref fz, .int nm])), (sl, .inl (cI, 1653, .inl u_30))] := hD
                have c30_0 := hw_30
                have c30_0 : SI u_30 v0 := c30_0
                refine lv_aload_n hx hb dX8_year_116 rfl (lv_at hl 3 rfl) ?_
                refine va_get (D := D) (ci := 7) (v := .ref sl) (C := RX8) (T := TX8) (N := 16) hx hb hts (fun _ h => List.mem_cons_of_mem _ (List.mem_append_right _ h)) hown hK hP 0 rfl rfl 0 (by decide) (hts (.fieldLink RX8 7 "WinterWalkModel" "slot" "[I") (List.mem_of_getElem? (i := 1) rfl)) (fun _ h9 => h9) rfl dX8_year_117 ?_
                refine lv_sipush (v := 1570) hx hb dX8_year_120 (by decide) ?_
                refine lv_dup2_11 hx hb dX8_year_123 rfl rfl ?_
                refine va_iald hx hb hK hP 1 0 rfl rfl (zi_in (by decide) (by decide)) dX8_year_124 ?_
                refine lv_topi (fun x_31 ex_31 => ?_)
                refine lv_iload hx hb dX8_year_125 (lv_at hl 0 rfl) ?_
                refine lv_ixor hx hb dX8_year_127 ?_
                refine lv_topi (fun x_32 ex_32 => ?_)
                clear ex_32
                refine va_iast hx hb hK hP hD hS 1 0 rfl rfl (zi_in (by decide) (by decide)) dX8_year_128 (fun H locs hP hD hS => ?_)
                have hP : va_P D kl [(h, .inr (7, [.ref sl, .int na, .ref zs, .ref ln, .ref ir, .ref tk, .int su, .int le, .ref tb, .int fu, .int ap, .int pp, .ref tr, .int tc, .ref fz, .int nm])), (sl, .inl (cI, 1653, .inl (upd u_30 (1570 : Int32).toNatClampNeg x_32)))] H := hP
                have hD : va_D A [(h, .inr (7, [.ref sl, .int na, .ref zs, .ref ln, .ref ir, .ref tk, .int su, .int le, .ref tb, .int fu, .int ap, .int pp, .ref tr, .int tc, .ref fz, .int nm])), (sl, .inl (cI, 1653, .inl (upd u_30 (1570 : Int32).toNatClampNeg x_32)))] := hD
                have hq_33 : (1570 : Int32).toInt = 1570 := by decide
                have ha_33 : SI (upd u_30 (1570 : Int32).toNatClampNeg x_32) v0 := si_up c30_0 (by omega) (fun s0 a0 b0 e0 => by omega) (fun s0 a0 b0 e0 => by omega) (fun s0 k0 a0 b0 c0 d0 e0 => by omega) (by omega)
                obtain ⟨x_34, ex_34⟩ : ∃ y : Int32, y = t6_c63 + Int32.ofInt 1 := ⟨_, rfl⟩
                refine lv_iinc (v := x_34) (lv' := [(6, .int x_34), (7, .int x_26), (4, .long x_22), (0, .ref h), (1, .int n), (2, .int k), (3, .int b)]) hx hb dX8_year_129 hl (k := 2) rfl ex_34.symm (by decide) rfl (fun ls hl => ?_)
                have ex_34 : x_34 = t6_c63 + 1 := ex_34
                have e_34 : x_34.toInt = t6_c63.toInt + 1 := by rw [ex_34]; exact zi_add (rfl) (by decide) (by omega) (by omega)
                clear ex_34
                refine lv_goto (tgt := 63) hx hb dX8_year_132 (by decide) ?_
                exact ih63 x_34 x_22 (upd u_30 (1570 : Int32).toNatClampNeg x_32) _ _ _ (show 0 ≤ x_34.toInt ∧ x_34.toInt ≤ 100 from by omega) ha_33 (by omega) (hP.sub [0, 1] rfl) (hD.sub [0, 1] (by decide) rfl) hS (lv_sub hl [0, 2, 3, 4, 5, 6] rfl)
          exact hL63 (((n.toInt - (0 : Int32).toInt).toNat) + 1) 0 (k.toInt64) u_6 _ _ _ (show 0 ≤ 0 ∧ 0 ≤ 100 from by omega) c6_0 (Nat.lt_succ_self _) (hP.sub [0, 1] rfl) (hD.sub [0, 1] (by decide) rfl) hS (lv_sub hl [0, 1, 2, 3, 4, 5] rfl)
        · subst e_5
          have f_5 : ¬ ((0 : Int) ≤ b.toInt ∧ b.toInt ≤ (1 : Int)) := by
            have h8 := f_5
            try simp only [zl_of] at h8
            exact h8
          refine lv_if_ne (tgt := 49) hx hb dX8_year_43 (by decide) (fun c9 => absurd (by decide) c9) (fun _ => ?_)
          refine lv_ldc (v := (-1000001)) hx hb hown (hts (.constant RX8 48 (-1000001)) (List.mem_of_getElem? (i := 5) rfl)) dX8_year_46 ?_
          exact wr_i (v := (-1000001)) hx hb hr hlocks hS sf (by exact hsi) (hP.sub [0, 1] rfl) (hD.sub [0, 1] (by decide) rfl) dX8_year_48
      · subst e_4
        have f_4 : ¬ ((1 : Int) ≤ k.toInt ∧ k.toInt ≤ (999999 : Int)) := by
          have h8 := f_4
          try simp only [zl_of] at h8
          exact h8
        refine lv_if_eq (tgt := 46) hx hb dX8_year_33 (by decide) (fun _ => ?_) (fun c9 => absurd (by decide) c9)
        refine lv_ldc (v := (-1000001)) hx hb hown (hts (.constant RX8 48 (-1000001)) (List.mem_of_getElem? (i := 5) rfl)) dX8_year_46 ?_
        exact wr_i (v := (-1000001)) hx hb hr hlocks hS sf (by exact hsi) (hP.sub [0, 1] rfl) (hD.sub [0, 1] (by decide) rfl) dX8_year_48
    · subst e_3
      have f_3 : ¬ ((0 : Int) ≤ n.toInt ∧ n.toInt ≤ (100 : Int)) := by
        have h8 := f_3
        try simp only [zl_of] at h8
        exact h8
      refine lv_if_eq (tgt := 46) hx hb dX8_year_21 (by decide) (fun _ => ?_) (fun c9 => absurd (by decide) c9)
      refine lv_ldc (v := (-1000001)) hx hb hown (hts (.constant RX8 48 (-1000001)) (List.mem_of_getElem? (i := 5) rfl)) dX8_year_46 ?_
      exact wr_i (v := (-1000001)) hx hb hr hlocks hS sf (by exact hsi) (hP.sub [0, 1] rfl) (hD.sub [0, 1] (by decide) rfl) dX8_year_48
  · have f_2 : x_1.toInt = 0 := zi_eq c_2
    refine lv_ldc (v := (-1000002)) hx hb hown (hts (.constant RX8 121 (-1000002)) (List.mem_of_getElem? (i := 2) rfl)) dX8_year_9 ?_
    exact wr_i (v := (-1000002)) hx hb hr hlocks hS sf (by exact hsi) (hP.sub [0, 1] rfl) (hD.sub [0, 1] (by decide) rfl) dX8_year_11
set_option maxHeartbeats 4000000 in
set_option maxRecDepth 100000 in
theorem g_X8_image (l : Launch) (D : va_G) (cI cB cQ : ClassId) (sz : Nat) (h : Nat) (sl : Nat) (zs : Nat) (ln : Nat) (ir : Nat) (tk : Nat) (tb : Nat) (tr : Nat) (fz : Nat) (na : Int32) (su : Int32) (le : Int32) (fu : Int32) (ap : Int32) (pp : Int32) (tc : Int32) (nm : Int32) (k : Int32) (sf : Nat → Int32) (v0 : Int) (hsi : SI sf v0) : mi l yX8_image wsX8_image ({ frames := 1, cells := 0, slots := 0, locals := 25 }) D cI cB cQ [.ref h, .int k] sz [(h, .inr (7, [.ref sl, .int na, .ref zs, .ref ln, .ref ir, .ref tk, .int su, .int le, .ref tb, .int fu, .int ap, .int pp, .ref tr, .int tc, .ref fz, .int nm])), (sl, .inl (cI, 1653, .inl sf))] (fun (r : Int32) (u : (Nat → Int32)) => (SI u v0)) (fun u => [(h, .inr (7, [.ref sl, .int na, .ref zs, .ref ln, .ref ir, .ref tk, .int su, .int le, .ref tb, .int fu, .int ap, .int pp, .ref tr, .int tc, .ref fz, .int nm])), (sl, .inl (cI, 1653, .inl u))]) 0 0 := by
  refine wm_i (cc := cX8_image) (maxL := 2) (ret := (some .int)) (by decide) rfl (Nat.le_of_ble_eq_true rfl) ?_
  intro p e s m below meth c A ls hx hb hr hml hown hts hlocks hin hP hK hD hN hA hl hS
  have hown : s.vm.findClass RX8 = some m.cls := hown
  have hl : lv_has ls 2 [(0, .ref h), (1, .int k)] := hl
  change W p l e ({ frames := 1, cells := 0, slots := 0, locals := 25 }) s m ([.ref h, .int k] : List Value).toArray below meth c s.heap [] 0 0 (MQ below (va_Qi (fun (r : Int32) (u : (Nat → Int32)) => (SI u v0)) (fun u t => wb D A ((fun u => [(h, .inr (7, [.ref sl, .int na, .ref zs, .ref ln, .ref ir, .ref tk, .int su, .int le, .ref tb, .int fu, .int ap, .int pp, .ref tr, .int tc, .ref fz, .int nm])), (sl, .inl (cI, 1653, .inl u))]) u) t) A) ([.ref h, .int k] : List Value).toArray s 0 0 A) (F0 m 0 ls [])
  refine lv_iload_n hx hb dX8_image_0 rfl (lv_at hl 1 rfl) ?_
  refine lv_i2l (v := (k.toInt64)) hx hb dX8_image_1 rfl ?_
  refine lv_lconst (v := 0) hx hb dX8_image_2 (by decide) ?_
  refine lv_lconst (v := 1) hx hb dX8_image_3 (by decide) ?_
  have k_1 := (g_X8_in l D cI cB cQ s.heap.size (k.toInt64) 0 1)
  refine wc_i (WC := []) (WR := [(h, .inr (7, [.ref sl, .int na, .ref zs, .ref ln, .ref ir, .ref tk, .int su, .int le, .ref tb, .int fu, .int ap, .int pp, .ref tr, .int tc, .ref fz, .int nm])), (sl, .inl (cI, 1653, .inl sf))]) (va_runS (As := [.long (k.toInt64), .long 0, .long 1]) (rest := []) ⟨hx, hb, hml, hown, hts⟩ k_1 (va_cwS 3 hts gX8_image_X8_in rfl rfl rfl (by decide +kernel) ⟨Nat.le_of_ble_eq_true rfl, Nat.le_of_ble_eq_true rfl⟩) (wp_S hP hK hD hN [] (by decide) rfl) rfl rfl hl.1 rfl (lv_room (Nat.le_of_ble_eq_true rfl)) dX8_image_4 ⟨Nat.le_of_ble_eq_true rfl, Nat.le_of_ble_eq_true rfl⟩) hP hD hS hA [] [0, 1] rfl rfl (by decide) (by decide) (fun r_1 u_1 H locs hw_1 hP hD hS => ?_)
  clear k_1
  have hP : va_P D kl [(h, .inr (7, [.ref sl, .int na, .ref zs, .ref ln, .ref ir, .ref tk, .int su, .int le, .ref tb, .int fu, .int ap, .int pp, .ref tr, .int tc, .ref fz, .int nm])), (sl, .inl (cI, 1653, .inl sf))] H := hP
  have hD : va_D A [(h, .inr (7, [.ref sl, .int na, .ref zs, .ref ln, .ref ir, .ref tk, .int su, .int le, .ref tb, .int fu, .int ap, .int pp, .ref tr, .int tc, .ref fz, .int nm])), (sl, .inl (cI, 1653, .inl sf))] := hD
  have c1_0 := hw_1
  rcases c1_0 with ⟨e_1, f_1⟩ | ⟨e_1, f_1⟩
  · subst e_1
    have f_1 : (0 : Int) ≤ k.toInt ∧ k.toInt ≤ (1 : Int) := by
      have h8 := f_1
      try simp only [zl_of] at h8
      exact h8
    refine lv_if_ne (tgt := 13) hx hb dX8_image_7 (by decide) (fun _ => ?_) (fun c9 => absurd c9 (by decide))
    refine lv_aload_n hx hb dX8_image_13 rfl (lv_at hl 0 rfl) ?_
    refine va_get (D := D) (ci := 7) (v := .ref sl) (C := RX8) (T := TX8) (N := 16) hx hb hts (fun _ h => List.mem_cons_of_mem _ (List.mem_append_right _ h)) hown hK hP 0 rfl rfl 0 (by decide) (hts (.fieldLink RX8 7 "WinterWalkModel" "slot" "[I") (List.mem_of_getElem? (i := 2) rfl)) (fun _ h9 => h9) rfl dX8_image_14 ?_
    refine lv_iconst (v := 1) hx hb dX8_image_17 (by decide) ?_
    refine va_iald hx hb hK hP 1 0 rfl rfl (zi_in (by decide) (by decide)) dX8_image_18 ?_
    refine lv_topi (fun x_2 ex_2 => ?_)
    have f_2 : 0 ≤ x_2.toInt ∧ x_2.toInt ≤ 8 := by rw [ex_2]; exact si_v hsi (s := 0) (by decide) (by omega)
    have g_2 : x_2.toInt = v0 := by rw [ex_2]; exact hsi.2
    refine lv_if_ne (tgt := 25) hx hb dX8_image_19 (by decide) (fun c_3 => ?_) (fun c_3 => ?_)
    · have f_3 : ¬ x_2.toInt = 0 := zi_ne c_3
      refine lv_aload_n hx hb dX8_image_25 rfl (lv_at hl 0 rfl) ?_
      refine lv_iconst (v := 0) hx hb dX8_image_26 (by decide) ?_
      refine lv_iload_n hx hb dX8_image_27 rfl (lv_at hl 1 rfl) ?_
      refine lv_iconst (v := 1) hx hb dX8_image_28 (by decide) ?_
      refine lv_iadd hx hb dX8_image_29 ?_
      refine lv_topi (fun x_4 ex_4 => ?_)
      have e_4 : x_4.toInt = k.toInt + 1 := by rw [ex_4]; exact zi_add (rfl) (by decide) (by omega) (by omega)
      clear ex_4
      have k_5 := (g_X8_copies l D cI cB cQ H.size h sl zs ln ir tk tb tr fz na su le fu ap pp tc nm 0 x_4 sf v0 hsi ⟨by decide, by decide⟩ (by omega))
      refine wc_v (WC := [(h, .inr (7, [.ref sl, .int na, .ref zs, .ref ln, .ref ir, .ref tk, .int su, .int le, .ref tb, .int fu, .int ap, .int pp, .ref tr, .int tc, .ref fz, .int nm])), (sl, .inl (cI, 1653, .inl sf))]) (WR := []) (va_runV (As := [.int 0, .int x_4]) (rest := []) ⟨hx, hb, hml, hown, hts⟩ k_5 (cwV 2 hts gX8_image_X8_copies rfl rfl rfl (by decide +kernel) ⟨Nat.le_of_ble_eq_true rfl, Nat.le_of_ble_eq_true rfl⟩) (wp_V hP hK hD hN [0, 1] (by decide) rfl (ci := 7) rfl rfl) rfl rfl hl.1 rfl (lv_room (Nat.le_of_ble_eq_true rfl)) dX8_image_30 ⟨Nat.le_of_ble_eq_true rfl, Nat.le_of_ble_eq_true rfl⟩) hP hD hS hA [0, 1] [] rfl rfl (by decide) (by decide) (fun u_5 H locs hw_5 hP hD hS => ?_)
      clear k_5
      have hP : va_P D kl [(h, .inr (7, [.ref sl, .int na, .ref zs, .ref ln, .ref ir, .ref tk, .int su, .int le, .ref tb, .int fu, .int ap, .int pp, .ref tr, .int tc, .ref fz, .int nm])), (sl, .inl (cI, 1653, .inl u_5))] H := hP
      have hD : va_D A [(h, .inr (7, [.ref sl, .int na, .ref zs, .ref ln, .ref ir, .ref tk, .int su, .int le, .ref tb, .int fu, .int ap, .int pp, .ref tr, .int tc, .ref fz, .int nm])), (sl, .inl (cI, 1653, .inl u_5))] := hD
      have c5_0 := hw_5
      have c5_0 : SI u_5 v0 := c5_0
      refine lv_iconst (v := 1) hx hb dX8_image_33 (by decide) ?_
      exact wr_i (v := 1) hx hb hr hlocks hS u_5 (by exact c5_0) (hP.sub [0, 1] rfl) (hD.sub [0, 1] (by decide) rfl) dX8_image_34
    · have f_3 : x_2.toInt = 0 := zi_eq c_3
      refine lv_ldc (v := (-1000002)) hx hb hown (hts (.constant RX8 121 (-1000002)) (List.mem_of_getElem? (i := 3) rfl)) dX8_image_22 ?_
      exact wr_i (v := (-1000002)) hx hb hr hlocks hS sf (by exact hsi) (hP.sub [0, 1] rfl) (hD.sub [0, 1] (by decide) rfl) dX8_image_24
  · subst e_1
    have f_1 : ¬ ((0 : Int) ≤ k.toInt ∧ k.toInt ≤ (1 : Int)) := by
      have h8 := f_1
      try simp only [zl_of] at h8
      exact h8
    refine lv_if_ne (tgt := 13) hx hb dX8_image_7 (by decide) (fun c9 => absurd (by decide) c9) (fun _ => ?_)
    refine lv_ldc (v := (-1000001)) hx hb hown (hts (.constant RX8 48 (-1000001)) (List.mem_of_getElem? (i := 1) rfl)) dX8_image_10 ?_
    exact wr_i (v := (-1000001)) hx hb hr hlocks hS sf (by exact hsi) (hP.sub [0, 1] rfl) (hD.sub [0, 1] (by decide) rfl) dX8_image_12
set_option maxHeartbeats 4000000 in
set_option maxRecDepth 100000 in
theorem g_X8_kind (l : Launch) (D : va_G) (cI cB cQ : ClassId) (sz : Nat) (h : Nat) (sl : Nat) (zs : Nat) (ln : Nat) (ir : Nat) (tk : Nat) (tb : Nat) (tr : Nat) (fz : Nat) (na : Int32) (su : Int32) (le : Int32) (fu : Int32) (ap : Int32) (pp : Int32) (tc : Int32) (nm : Int32) (v : Int32) (sf : Nat → Int32) (v0 : Int) (hsi : SI sf v0) : mi l yX8_kind wsX8_kind ({ frames := 2, cells := 0, slots := 0, locals := 46 }) D cI cB cQ [.ref h, .int v] sz [(h, .inr (7, [.ref sl, .int na, .ref zs, .ref ln, .ref ir, .ref tk, .int su, .int le, .ref tb, .int fu, .int ap, .int pp, .ref tr, .int tc, .ref fz, .int nm])), (sl, .inl (cI, 1653, .inl sf))] (fun (r : Int32) (_u : Unit) => True) (fun _ => [(h, .inr (7, [.ref sl, .int na, .ref zs, .ref ln, .ref ir, .ref tk, .int su, .int le, .ref tb, .int fu, .int ap, .int pp, .ref tr, .int tc, .ref fz, .int nm])), (sl, .inl (cI, 1653, .inl sf))]) 0 0 := by
  refine wm_i (cc := cX8_kind) (maxL := 2) (ret := (some .int)) (by decide) rfl (Nat.le_of_ble_eq_true rfl) ?_
  intro p e s m below meth c A ls hx hb hr hml hown hts hlocks hin hP hK hD hN hA hl hS
  have hown : s.vm.findClass RX8 = some m.cls := hown
  have hl : lv_has ls 2 [(0, .ref h), (1, .int v)] := hl
  change W p l e ({ frames := 2, cells := 0, slots := 0, locals := 46 }) s m ([.ref h, .int v] : List Value).toArray below meth c s.heap [] 0 0 (MQ below (va_Qi (fun (r : Int32) (_u : Unit) => True) (fun u t => wb D A ((fun _ => [(h, .inr (7, [.ref sl, .int na, .ref zs, .ref ln, .ref ir, .ref tk, .int su, .int le, .ref tb, .int fu, .int ap, .int pp, .ref tr, .int tc, .ref fz, .int nm])), (sl, .inl (cI, 1653, .inl sf))]) u) t) A) ([.ref h, .int v] : List Value).toArray s 0 0 A) (F0 m 0 ls [])
  refine lv_aload_n hx hb dX8_kind_0 rfl (lv_at hl 0 rfl) ?_
  refine lv_iload_n hx hb dX8_kind_1 rfl (lv_at hl 1 rfl) ?_
  have k_1 := (g_X8_isWalkerThere l D cI cB cQ s.heap.size h sl zs ln ir tk tb tr fz na su le fu ap pp tc nm v sf v0 hsi)
  refine wc_i (WC := [(h, .inr (7, [.ref sl, .int na, .ref zs, .ref ln, .ref ir, .ref tk, .int su, .int le, .ref tb, .int fu, .int ap, .int pp, .ref tr, .int tc, .ref fz, .int nm])), (sl, .inl (cI, 1653, .inl sf))]) (WR := []) (va_runV (As := [.int v]) (rest := []) ⟨hx, hb, hml, hown, hts⟩ k_1 (cwV 1 hts gX8_kind_X8_isWalkerThere rfl rfl rfl (by decide +kernel) ⟨Nat.le_of_ble_eq_true rfl, Nat.le_of_ble_eq_true rfl⟩) (wp_V hP hK hD hN [0, 1] (by decide) rfl (ci := 7) rfl rfl) rfl rfl hl.1 rfl (lv_room (Nat.le_of_ble_eq_true rfl)) dX8_kind_2 ⟨Nat.le_of_ble_eq_true rfl, Nat.le_of_ble_eq_true rfl⟩) hP hD hS hA [0, 1] [] rfl rfl (by decide) (by decide) (fun r_1 u_1 H locs hw_1 hP hD hS => ?_)
  clear k_1
  have hP : va_P D kl [(h, .inr (7, [.ref sl, .int na, .ref zs, .ref ln, .ref ir, .ref tk, .int su, .int le, .ref tb, .int fu, .int ap, .int pp, .ref tr, .int tc, .ref fz, .int nm])), (sl, .inl (cI, 1653, .inl sf))] H := hP
  have hD : va_D A [(h, .inr (7, [.ref sl, .int na, .ref zs, .ref ln, .ref ir, .ref tk, .int su, .int le, .ref tb, .int fu, .int ap, .int pp, .ref tr, .int tc, .ref fz, .int nm])), (sl, .inl (cI, 1653, .inl sf))] := hD
  have c1_0 := hw_1
  rcases c1_0 with ⟨e_1, f_1⟩ | e_1
  · subst e_1
    have f_1 : 0 ≤ v.toInt ∧ v.toInt ≤ 2 := f_1
    refine lv_if_eq (tgt := 20) hx hb dX8_kind_5 (by decide) (fun c9 => absurd c9 (by decide)) (fun _ => ?_)
    refine lv_aload_n hx hb dX8_kind_8 rfl (lv_at hl 0 rfl) ?_
    refine va_get (D := D) (ci := 7) (v := .ref sl) (C := RX8) (T := TX8) (N := 16) hx hb hts (fun _ h => List.mem_cons_of_mem _ (List.mem_append_right _ h)) hown hK hP 0 rfl rfl 0 (by decide) (hts (.fieldLink RX8 7 "WinterWalkModel" "slot" "[I") (List.mem_of_getElem? (i := 1) rfl)) (fun _ h9 => h9) rfl dX8_kind_9 ?_
    refine lv_bipush (v := 20) hx hb dX8_kind_12 (by decide) ?_
    refine lv_iload_n hx hb dX8_kind_14 rfl (lv_at hl 1 rfl) ?_
    refine lv_iadd hx hb dX8_kind_15 ?_
    refine lv_topi (fun x_2 ex_2 => ?_)
    have e_2 : x_2.toInt = 20 + v.toInt := by rw [ex_2]; exact zi_add (by decide) (rfl) (by omega) (by omega)
    clear ex_2
    refine va_iald hx hb hK hP 1 0 rfl rfl (zi_in (by omega) (by omega)) dX8_kind_16 ?_
    refine lv_topi (fun x_3 ex_3 => ?_)
    clear ex_3
    refine lv_goto (tgt := 22) hx hb dX8_kind_17 (by decide) ?_
    exact wr_i (v := x_3) hx hb hr hlocks hS () (by trivial) (hP.sub [0, 1] rfl) (hD.sub [0, 1] (by decide) rfl) dX8_kind_22
  · subst e_1
    refine lv_if_eq (tgt := 20) hx hb dX8_kind_5 (by decide) (fun _ => ?_) (fun c9 => absurd (by decide) c9)
    refine lv_ldc (v := (-1000001)) hx hb hown (hts (.constant RX8 48 (-1000001)) (List.mem_of_getElem? (i := 2) rfl)) dX8_kind_20 ?_
    exact wr_i (v := (-1000001)) hx hb hr hlocks hS () (by trivial) (hP.sub [0, 1] rfl) (hD.sub [0, 1] (by decide) rfl) dX8_kind_22
set_option maxHeartbeats 4000000 in
set_option maxRecDepth 100000 in
theorem g_X8_isKind (l : Launch) (D : va_G) (cI cB cQ : ClassId) (sz : Nat) (k : Int32) (b : Int32) : mi l yX8_isKind wsX8_isKind ({ frames := 0, cells := 0, slots := 0, locals := 0 }) D cI cB cQ [.int k, .int b] sz [] (fun (r : Int32) (_u : Unit) => ((r = 1) ∨ (r = 0))) (fun _ => []) 0 0 := by
  refine wm_i (cc := cX8_isKind) (maxL := 2) (ret := (some .boolean)) (by decide) rfl (Nat.le_of_ble_eq_true rfl) ?_
  intro p e s m below meth c A ls hx hb hr hml hown hts hlocks hin hP hK hD hN hA hl hS
  have hown : s.vm.findClass RX8 = some m.cls := hown
  have hl : lv_has ls 2 [(0, .int k), (1, .int b)] := hl
  change W p l e ({ frames := 0, cells := 0, slots := 0, locals := 0 }) s m ([.int k, .int b] : List Value).toArray below meth c s.heap [] 0 0 (MQ below (va_Qi (fun (r : Int32) (_u : Unit) => ((r = 1) ∨ (r = 0))) (fun u t => wb D A ((fun _ => []) u) t) A) ([.int k, .int b] : List Value).toArray s 0 0 A) (F0 m 0 ls [])
  refine lv_iload_n hx hb dX8_isKind_0 rfl (lv_at hl 1 rfl) ?_
  refine lv_if_eq (tgt := 29) hx hb dX8_isKind_1 (by decide) (fun c_1 => ?_) (fun c_1 => ?_)
  · have f_1 : b.toInt = 0 := zi_eq c_1
    refine lv_iconst (v := 1) hx hb dX8_isKind_29 (by decide) ?_
    refine lv_goto (tgt := 34) hx hb dX8_isKind_30 (by decide) ?_
    exact wr_z (v := 1) hx hb hr hlocks hS () (by exact Or.inl rfl) (hP.sub [] rfl) (hD.sub [] (by decide) rfl) dX8_isKind_34 rfl
  · have f_1 : ¬ b.toInt = 0 := zi_ne c_1
    refine lv_iload_n hx hb dX8_isKind_4 rfl (lv_at hl 0 rfl) ?_
    refine lv_iload_n hx hb dX8_isKind_5 rfl (lv_at hl 1 rfl) ?_
    refine lv_icmp_eq (tgt := 29) hx hb dX8_isKind_6 (by decide) (fun c_2 => ?_) (fun c_2 => ?_)
    · have f_2 : k.toInt = b.toInt := zi_eq c_2
      refine lv_iconst (v := 1) hx hb dX8_isKind_29 (by decide) ?_
      refine lv_goto (tgt := 34) hx hb dX8_isKind_30 (by decide) ?_
      exact wr_z (v := 1) hx hb hr hlocks hS () (by exact Or.inl rfl) (hP.sub [] rfl) (hD.sub [] (by decide) rfl) dX8_isKind_34 rfl
    · have f_2 : ¬ k.toInt = b.toInt := zi_ne c_2
      refine lv_iload_n hx hb dX8_isKind_9 rfl (lv_at hl 1 rfl) ?_
      refine lv_iconst (v := 1) hx hb dX8_isKind_10 (by decide) ?_
      refine lv_icmp_ne (tgt := 19) hx hb dX8_isKind_11 (by decide) (fun c_3 => ?_) (fun c_3 => ?_)
      · have f_3 : ¬ b.toInt = 1 := zi_ne c_3
        refine lv_iload_n hx hb dX8_isKind_19 rfl (lv_at hl 1 rfl) ?_
        refine lv_iconst (v := 4) hx hb dX8_isKind_20 (by decide) ?_
        refine lv_icmp_ne (tgt := 33) hx hb dX8_isKind_21 (by decide) (fun c_4 => ?_) (fun c_4 => ?_)
        · have f_4 : ¬ b.toInt = 4 := zi_ne c_4
          refine lv_iconst (v := 0) hx hb dX8_isKind_33 (by decide) ?_
          exact wr_z (v := 0) hx hb hr hlocks hS () (by exact Or.inr (rfl)) (hP.sub [] rfl) (hD.sub [] (by decide) rfl) dX8_isKind_34 rfl
        · have f_4 : b.toInt = 4 := zi_eq c_4
          refine lv_iload_n hx hb dX8_isKind_24 rfl (lv_at hl 0 rfl) ?_
          refine lv_iconst (v := 5) hx hb dX8_isKind_25 (by decide) ?_
          refine lv_icmp_ne (tgt := 33) hx hb dX8_isKind_26 (by decide) (fun c_5 => ?_) (fun c_5 => ?_)
          · have f_5 : ¬ k.toInt = 5 := zi_ne c_5
            refine lv_iconst (v := 0) hx hb dX8_isKind_33 (by decide) ?_
            exact wr_z (v := 0) hx hb hr hlocks hS () (by exact Or.inr (rfl)) (hP.sub [] rfl) (hD.sub [] (by decide) rfl) dX8_isKind_34 rfl
          · have f_5 : k.toInt = 5 := zi_eq c_5
            refine lv_iconst (v := 1) hx hb dX8_isKind_29 (by decide) ?_
            refine lv_goto (tgt := 34) hx hb dX8_isKind_30 (by decide) ?_
            exact wr_z (v := 1) hx hb hr hlocks hS () (by exact Or.inl rfl) (hP.sub [] rfl) (hD.sub [] (by decide) rfl) dX8_isKind_34 rfl
      · have f_3 : b.toInt = 1 := zi_eq c_3
        refine lv_iload_n hx hb dX8_isKind_14 rfl (lv_at hl 0 rfl) ?_
        refine lv_iconst (v := 4) hx hb dX8_isKind_15 (by decide) ?_
        refine lv_icmp_lt (tgt := 29) hx hb dX8_isKind_16 (by decide) (fun c_6 => ?_) (fun c_6 => ?_)
        · have f_6 : k.toInt < 4 := zi_lt c_6
          refine lv_iconst (v := 1) hx hb dX8_isKind_29 (by decide) ?_
          refine lv_goto (tgt := 34) hx hb dX8_isKind_30 (by decide) ?_
          exact wr_z (v := 1) hx hb hr hlocks hS () (by exact Or.inl rfl) (hP.sub [] rfl) (hD.sub [] (by decide) rfl) dX8_isKind_34 rfl
        · have f_6 : ¬ k.toInt < 4 := zi_nlt c_6
          refine lv_iload_n hx hb dX8_isKind_19 rfl (lv_at hl 1 rfl) ?_
          refine lv_iconst (v := 4) hx hb dX8_isKind_20 (by decide) ?_
          refine lv_icmp_ne (tgt := 33) hx hb dX8_isKind_21 (by decide) (fun c_7 => ?_) (fun c_7 => ?_)
          · have f_7 : ¬ b.toInt = 4 := zi_ne c_7
            refine lv_iconst (v := 0) hx hb dX8_isKind_33 (by decide) ?_
            exact wr_z (v := 0) hx hb hr hlocks hS () (by exact Or.inr (rfl)) (hP.sub [] rfl) (hD.sub [] (by decide) rfl) dX8_isKind_34 rfl
          · have f_7 : b.toInt = 4 := zi_eq c_7
            exfalso; omega
set_option maxHeartbeats 4000000 in
set_option maxRecDepth 100000 in
theorem g_X8_as (l : Launch) (D : va_G) (cI cB cQ : ClassId) (sz : Nat) (h : Nat) (sl : Nat) (zs : Nat) (ln : Nat) (ir : Nat) (tk : Nat) (tb : Nat) (tr : Nat) (fz : Nat) (na : Int32) (su : Int32) (le : Int32) (fu : Int32) (ap : Int32) (pp : Int32) (tc : Int32) (nm : Int32) (v : Int32) (b : Int32) (sf : Nat → Int32) (v0 : Int) (hsi : SI sf v0) : mi l yX8_as wsX8_as ({ frames := 2, cells := 0, slots := 0, locals := 46 }) D cI cB cQ [.ref h, .int v, .int b] sz [(h, .inr (7, [.ref sl, .int na, .ref zs, .ref ln, .ref ir, .ref tk, .int su, .int le, .ref tb, .int fu, .int ap, .int pp, .ref tr, .int tc, .ref fz, .int nm])), (sl, .inl (cI, 1653, .inl sf))] (fun (r : Int32) (u : Int32) => True) (fun u => [(h, .inr (7, [.ref sl, .int na, .ref zs, .ref ln, .ref ir, .ref tk, .int u, .int le, .ref tb, .int fu, .int ap, .int pp, .ref tr, .int tc, .ref fz, .int nm])), (sl, .inl (cI, 1653, .inl sf))]) 0 0 := by
  refine wm_i (cc := cX8_as) (maxL := 3) (ret := (some .int)) (by decide) rfl (Nat.le_of_ble_eq_true rfl) ?_
  intro p e s m below meth c A ls hx hb hr hml hown hts hlocks hin hP hK hD hN hA hl hS
  have hown : s.vm.findClass RX8 = some m.cls := hown
  have hl : lv_has ls 3 [(0, .ref h), (1, .int v), (2, .int b)] := hl
  change W p l e ({ frames := 2, cells := 0, slots := 0, locals := 46 }) s m ([.ref h, .int v, .int b] : List Value).toArray below meth c s.heap [] 0 0 (MQ below (va_Qi (fun (r : Int32) (u : Int32) => True) (fun u t => wb D A ((fun u => [(h, .inr (7, [.ref sl, .int na, .ref zs, .ref ln, .ref ir, .ref tk, .int u, .int le, .ref tb, .int fu, .int ap, .int pp, .ref tr, .int tc, .ref fz, .int nm])), (sl, .inl (cI, 1653, .inl sf))]) u) t) A) ([.ref h, .int v, .int b] : List Value).toArray s 0 0 A) (F0 m 0 ls [])
  refine lv_aload_n hx hb dX8_as_0 rfl (lv_at hl 0 rfl) ?_
  refine lv_iload_n hx hb dX8_as_1 rfl (lv_at hl 1 rfl) ?_
  have k_1 := (g_X8_isWalkerThere l D cI cB cQ s.heap.size h sl zs ln ir tk tb tr fz na su le fu ap pp tc nm v sf v0 hsi)
  refine wc_i (WC := [(h, .inr (7, [.ref sl, .int na, .ref zs, .ref ln, .ref ir, .ref tk, .int su, .int le, .ref tb, .int fu, .int ap, .int pp, .ref tr, .int tc, .ref fz, .int nm])), (sl, .inl (cI, 1653, .inl sf))]) (WR := []) (va_runV (As := [.int v]) (rest := []) ⟨hx, hb, hml, hown, hts⟩ k_1 (cwV 1 hts gX8_as_X8_isWalkerThere rfl rfl rfl (by decide +kernel) ⟨Nat.le_of_ble_eq_true rfl, Nat.le_of_ble_eq_true rfl⟩) (wp_V hP hK hD hN [0, 1] (by decide) rfl (ci := 7) rfl rfl) rfl rfl hl.1 rfl (lv_room (Nat.le_of_ble_eq_true rfl)) dX8_as_2 ⟨Nat.le_of_ble_eq_true rfl, Nat.le_of_ble_eq_true rfl⟩) hP hD hS hA [0, 1] [] rfl rfl (by decide) (by decide) (fun r_1 u_1 H locs hw_1 hP hD hS => ?_)
  clear k_1
  have hP : va_P D kl [(h, .inr (7, [.ref sl, .int na, .ref zs, .ref ln, .ref ir, .ref tk, .int su, .int le, .ref tb, .int fu, .int ap, .int pp, .ref tr, .int tc, .ref fz, .int nm])), (sl, .inl (cI, 1653, .inl sf))] H := hP
  have hD : va_D A [(h, .inr (7, [.ref sl, .int na, .ref zs, .ref ln, .ref ir, .ref tk, .int su, .int le, .ref tb, .int fu, .int ap, .int pp, .ref tr, .int tc, .ref fz, .int nm])), (sl, .inl (cI, 1653, .inl sf))] := hD
  have c1_0 := hw_1
  rcases c1_0 with ⟨e_1, f_1⟩ | e_1
  · subst e_1
    have f_1 : 0 ≤ v.toInt ∧ v.toInt ≤ 2 := f_1
    refine lv_if_eq (tgt := 20) hx hb dX8_as_5 (by decide) (fun c9 => absurd c9 (by decide)) (fun _ => ?_)
    refine lv_iload_n hx hb dX8_as_8 rfl (lv_at hl 2 rfl) ?_
    refine lv_i2l (v := (b.toInt64)) hx hb dX8_as_9 rfl ?_
    refine lv_lconst (v := 0) hx hb dX8_as_10 (by decide) ?_
    refine lv_ldc2 (v := 5) hx hb hown (hts (.constantLong RX8 155 (5)) (List.mem_of_getElem? (i := 1) rfl)) dX8_as_11 ?_
    have k_2 := (g_X8_in l D cI cB cQ H.size (b.toInt64) 0 5)
    refine wc_i (WC := []) (WR := [(h, .inr (7, [.ref sl, .int na, .ref zs, .ref ln, .ref ir, .ref tk, .int su, .int le, .ref tb, .int fu, .int ap, .int pp, .ref tr, .int tc, .ref fz, .int nm])), (sl, .inl (cI, 1653, .inl sf))]) (va_runS (As := [.long (b.toInt64), .long 0, .long 5]) (rest := []) ⟨hx, hb, hml, hown, hts⟩ k_2 (va_cwS 3 hts gX8_as_X8_in rfl rfl rfl (by decide +kernel) ⟨Nat.le_of_ble_eq_true rfl, Nat.le_of_ble_eq_true rfl⟩) (wp_S hP hK hD hN [] (by decide) rfl) rfl rfl hl.1 rfl (lv_room (Nat.le_of_ble_eq_true rfl)) dX8_as_14 ⟨Nat.le_of_ble_eq_true rfl, Nat.le_of_ble_eq_true rfl⟩) hP hD hS hA [] [0, 1] rfl rfl (by decide) (by decide) (fun r_2 u_2 H locs hw_2 hP hD hS => ?_)
    clear k_2
    have hP : va_P D kl [(h, .inr (7, [.ref sl, .int na, .ref zs, .ref ln, .ref ir, .ref tk, .int su, .int le, .ref tb, .int fu, .int ap, .int pp, .ref tr, .int tc, .ref fz, .int nm])), (sl, .inl (cI, 1653, .inl sf))] H := hP
    have hD : va_D A [(h, .inr (7, [.ref sl, .int na, .ref zs, .ref ln, .ref ir, .ref tk, .int su, .int le, .ref tb, .int fu, .int ap, .int pp, .ref tr, .int tc, .ref fz, .int nm])), (sl, .inl (cI, 1653, .inl sf))] := hD
    have c2_0 := hw_2
    rcases c2_0 with ⟨e_2, f_2⟩ | ⟨e_2, f_2⟩
    · subst e_2
      have f_2 : (0 : Int) ≤ b.toInt ∧ b.toInt ≤ (5 : Int) := by
        have h8 := f_2
        try simp only [zl_of] at h8
        exact h8
      refine lv_if_ne (tgt := 23) hx hb dX8_as_17 (by decide) (fun _ => ?_) (fun c9 => absurd c9 (by decide))
      refine lv_aload_n hx hb dX8_as_23 rfl (lv_at hl 0 rfl) ?_
      refine va_get (D := D) (ci := 7) (v := .ref sl) (C := RX8) (T := TX8) (N := 16) hx hb hts (fun _ h => List.mem_cons_of_mem _ (List.mem_append_right _ h)) hown hK hP 0 rfl rfl 0 (by decide) (hts (.fieldLink RX8 7 "WinterWalkModel" "slot" "[I") (List.mem_of_getElem? (i := 3) rfl)) (fun _ h9 => h9) rfl dX8_as_24 ?_
      refine lv_bipush (v := 20) hx hb dX8_as_27 (by decide) ?_
      refine lv_iload_n hx hb dX8_as_29 rfl (lv_at hl 1 rfl) ?_
      refine lv_iadd hx hb dX8_as_30 ?_
      refine lv_topi (fun x_3 ex_3 => ?_)
      have e_3 : x_3.toInt = 20 + v.toInt := by rw [ex_3]; exact zi_add (by decide) (rfl) (by omega) (by omega)
      clear ex_3
      refine va_iald hx hb hK hP 1 0 rfl rfl (zi_in (by omega) (by omega)) dX8_as_31 ?_
      refine lv_topi (fun x_4 ex_4 => ?_)
      clear ex_4
      refine lv_iload_n hx hb dX8_as_32 rfl (lv_at hl 2 rfl) ?_
      have k_5 := (g_X8_isKind l D cI cB cQ H.size x_4 b)
      refine wc_i (WC := []) (WR := [(h, .inr (7, [.ref sl, .int na, .ref zs, .ref ln, .ref ir, .ref tk, .int su, .int le, .ref tb, .int fu, .int ap, .int pp, .ref tr, .int tc, .ref fz, .int nm])), (sl, .inl (cI, 1653, .inl sf))]) (va_runS (As := [.int x_4, .int b]) (rest := []) ⟨hx, hb, hml, hown, hts⟩ k_5 (va_cwS 2 hts gX8_as_X8_isKind rfl rfl rfl (by decide +kernel) ⟨Nat.le_of_ble_eq_true rfl, Nat.le_of_ble_eq_true rfl⟩) (wp_S hP hK hD hN [] (by decide) rfl) rfl rfl hl.1 rfl (lv_room (Nat.le_of_ble_eq_true rfl)) dX8_as_33 ⟨Nat.le_of_ble_eq_true rfl, Nat.le_of_ble_eq_true rfl⟩) hP hD hS hA [] [0, 1] rfl rfl (by decide) (by decide) (fun r_5 u_5 H locs hw_5 hP hD hS => ?_)
      clear k_5
      have hP : va_P D kl [(h, .inr (7, [.ref sl, .int na, .ref zs, .ref ln, .ref ir, .ref tk, .int su, .int le, .ref tb, .int fu, .int ap, .int pp, .ref tr, .int tc, .ref fz, .int nm])), (sl, .inl (cI, 1653, .inl sf))] H := hP
      have hD : va_D A [(h, .inr (7, [.ref sl, .int na, .ref zs, .ref ln, .ref ir, .ref tk, .int su, .int le, .ref tb, .int fu, .int ap, .int pp, .ref tr, .int tc, .ref fz, .int nm])), (sl, .inl (cI, 1653, .inl sf))] := hD
      have c5_0 := hw_5
      rcases c5_0 with e_5 | e_5
      · subst e_5
        refine lv_if_eq (tgt := 47) hx hb dX8_as_36 (by decide) (fun c9 => absurd c9 (by decide)) (fun _ => ?_)
        refine lv_aload_n hx hb dX8_as_39 rfl (lv_at hl 0 rfl) ?_
        refine lv_iload_n hx hb dX8_as_40 rfl (lv_at hl 1 rfl) ?_
        have k_6 := (g_X8_told l D cI cB cQ H.size h sl zs ln ir tk tb tr fz na su le fu ap pp tc nm v)
        refine wc_i (WC := [(h, .inr (7, [.ref sl, .int na, .ref zs, .ref ln, .ref ir, .ref tk, .int su, .int le, .ref tb, .int fu, .int ap, .int pp, .ref tr, .int tc, .ref fz, .int nm]))]) (WR := [(sl, .inl (cI, 1653, .inl sf))]) (va_runV (As := [.int v]) (rest := []) ⟨hx, hb, hml, hown, hts⟩ k_6 (cwV 1 hts gX8_as_X8_told rfl rfl rfl (by decide +kernel) ⟨Nat.le_of_ble_eq_true rfl, Nat.le_of_ble_eq_true rfl⟩) (wp_V hP hK hD hN [0] (by decide) rfl (ci := 7) rfl rfl) rfl rfl hl.1 rfl (lv_room (Nat.le_of_ble_eq_true rfl)) dX8_as_41 ⟨Nat.le_of_ble_eq_true rfl, Nat.le_of_ble_eq_true rfl⟩) hP hD hS hA [0] [1] rfl rfl (by decide) (by decide) (fun r_6 u_6 H locs hw_6 hP hD hS => ?_)
        clear k_6
        have hP : va_P D kl [(sl, .inl (cI, 1653, .inl sf)), (h, .inr (7, [.ref sl, .int na, .ref zs, .ref ln, .ref ir, .ref tk, .int u_6, .int le, .ref tb, .int fu, .int ap, .int pp, .ref tr, .int tc, .ref fz, .int nm]))] H := hP
        have hD : va_D A [(sl, .inl (cI, 1653, .inl sf)), (h, .inr (7, [.ref sl, .int na, .ref zs, .ref ln, .ref ir, .ref tk, .int u_6, .int le, .ref tb, .int fu, .int ap, .int pp, .ref tr, .int tc, .ref fz, .int nm]))] := hD
        clear hw_6
        refine lv_goto (tgt := 52) hx hb dX8_as_44 (by decide) ?_
        exact wr_i (v := r_6) hx hb hr hlocks hS u_6 (by trivial) (hP.sub [1, 0] rfl) (hD.sub [1, 0] (by decide) rfl) dX8_as_52
      · subst e_5
        refine lv_if_eq (tgt := 47) hx hb dX8_as_36 (by decide) (fun _ => ?_) (fun c9 => absurd (by decide) c9)
        refine lv_aload_n hx hb dX8_as_47 rfl (lv_at hl 0 rfl) ?_
        refine lv_iconst (v := 3) hx hb dX8_as_48 (by decide) ?_
        have k_7 := (g_X8_finds l D cI cB cQ H.size h sl zs ln ir tk tb tr fz na su le fu ap pp tc nm 3)
        refine wc_i (WC := [(h, .inr (7, [.ref sl, .int na, .ref zs, .ref ln, .ref ir, .ref tk, .int su, .int le, .ref tb, .int fu, .int ap, .int pp, .ref tr, .int tc, .ref fz, .int nm]))]) (WR := [(sl, .inl (cI, 1653, .inl sf))]) (va_runV (As := [.int 3]) (rest := []) ⟨hx, hb, hml, hown, hts⟩ k_7 (cwV 1 hts gX8_as_X8_finds rfl rfl rfl (by decide +kernel) ⟨Nat.le_of_ble_eq_true rfl, Nat.le_of_ble_eq_true rfl⟩) (wp_V hP hK hD hN [0] (by decide) rfl (ci := 7) rfl rfl) rfl rfl hl.1 rfl (lv_room (Nat.le_of_ble_eq_true rfl)) dX8_as_49 ⟨Nat.le_of_ble_eq_true rfl, Nat.le_of_ble_eq_true rfl⟩) hP hD hS hA [0] [1] rfl rfl (by decide) (by decide) (fun r_7 u_7 H locs hw_7 hP hD hS => ?_)
        clear k_7
        have hP : va_P D kl [(sl, .inl (cI, 1653, .inl sf)), (h, .inr (7, [.ref sl, .int na, .ref zs, .ref ln, .ref ir, .ref tk, .int u_7, .int le, .ref tb, .int fu, .int ap, .int pp, .ref tr, .int tc, .ref fz, .int nm]))] H := hP
        have hD : va_D A [(sl, .inl (cI, 1653, .inl sf)), (h, .inr (7, [.ref sl, .int na, .ref zs, .ref ln, .ref ir, .ref tk, .int u_7, .int le, .ref tb, .int fu, .int ap, .int pp, .ref tr, .int tc, .ref fz, .int nm]))] := hD
        clear hw_7
        exact wr_i (v := r_7) hx hb hr hlocks hS u_7 (by trivial) (hP.sub [1, 0] rfl) (hD.sub [1, 0] (by decide) rfl) dX8_as_52
    · subst e_2
      have f_2 : ¬ ((0 : Int) ≤ b.toInt ∧ b.toInt ≤ (5 : Int)) := by
        have h8 := f_2
        try simp only [zl_of] at h8
        exact h8
      refine lv_if_ne (tgt := 23) hx hb dX8_as_17 (by decide) (fun c9 => absurd (by decide) c9) (fun _ => ?_)
      refine lv_ldc (v := (-1000001)) hx hb hown (hts (.constant RX8 48 (-1000001)) (List.mem_of_getElem? (i := 2) rfl)) dX8_as_20 ?_
      exact wr_i (v := (-1000001)) hx hb hr hlocks hS su (by trivial) (hP.sub [0, 1] rfl) (hD.sub [0, 1] (by decide) rfl) dX8_as_22
  · subst e_1
    refine lv_if_eq (tgt := 20) hx hb dX8_as_5 (by decide) (fun _ => ?_) (fun c9 => absurd (by decide) c9)
    refine lv_ldc (v := (-1000001)) hx hb hown (hts (.constant RX8 48 (-1000001)) (List.mem_of_getElem? (i := 2) rfl)) dX8_as_20 ?_
    exact wr_i (v := (-1000001)) hx hb hr hlocks hS su (by trivial) (hP.sub [0, 1] rfl) (hD.sub [0, 1] (by decide) rfl) dX8_as_22
set_option maxHeartbeats 4000000 in
set_option maxRecDepth 100000 in
theorem g_X8_begins (l : Launch) (D : va_G) (cI cB cQ : ClassId) (sz : Nat) (h : Nat) (sl : Nat) (zs : Nat) (ln : Nat) (ir : Nat) (tk : Nat) (tb : Nat) (tr : Nat) (fz : Nat) (na : Int32) (su : Int32) (le : Int32) (fu : Int32) (ap : Int32) (pp : Int32) (tc : Int32) (nm : Int32) (k : Int32) (trf : Nat → Int32) (h_na : 0 ≤ na.toInt ∧ na.toInt ≤ 24) (h_le : 0 ≤ le.toInt ∧ le.toInt ≤ 120) (h_ap : 0 ≤ ap.toInt ∧ ap.toInt ≤ 120) (h_tc : 0 ≤ tc.toInt ∧ tc.toInt ≤ 16) : mv l yX8_begins wsX8_begins ({ frames := 0, cells := 0, slots := 0, locals := 0 }) D cI cB cQ [.ref h, .int k] sz [(h, .inr (7, [.ref sl, .int na, .ref zs, .ref ln, .ref ir, .ref tk, .int su, .int le, .ref tb, .int fu, .int ap, .int pp, .ref tr, .int tc, .ref fz, .int nm])), (tr, .inl (cI, 16, .inl trf))] (fun (u : Int32 × (Nat → Int32)) => (0 ≤ u.1.toInt ∧ u.1.toInt ≤ 16)) (fun u => [(h, .inr (7, [.ref sl, .int na, .ref zs, .ref ln, .ref ir, .ref tk, .int su, .int le, .ref tb, .int fu, .int ap, .int pp, .ref tr, .int u.1, .ref fz, .int nm])), (tr, .inl (cI, 16, .inl u.2))]) 0 0 := by
  refine wm_v (cc := cX8_begins) (maxL := 2) (ret := none) (by decide) rfl (Nat.le_of_ble_eq_true rfl) ?_
  intro p e s m below meth c A ls hx hb hr hml hown hts hlocks hin hP hK hD hN hA hl hS
  have hown : s.vm.findClass RX8 = some m.cls := hown
  have hl : lv_has ls 2 [(0, .ref h), (1, .int k)] := hl
  change W p l e ({ frames := 0, cells := 0, slots := 0, locals := 0 }) s m ([.ref h, .int k] : List Value).toArray below meth c s.heap [] 0 0 (MQ below (va_Qv (fun (u : Int32 × (Nat → Int32)) => (0 ≤ u.1.toInt ∧ u.1.toInt ≤ 16)) (fun u t => wb D A ((fun u => [(h, .inr (7, [.ref sl, .int na, .ref zs, .ref ln, .ref ir, .ref tk, .int su, .int le, .ref tb, .int fu, .int ap, .int pp, .ref tr, .int u.1, .ref fz, .int nm])), (tr, .inl (cI, 16, .inl u.2))]) u) t) A) ([.ref h, .int k] : List Value).toArray s 0 0 A) (F0 m 0 ls [])
  refine lv_aload_n hx hb dX8_begins_0 rfl (lv_at hl 0 rfl) ?_
  refine va_get (D := D) (ci := 7) (v := .int tc) (C := RX8) (T := TX8) (N := 16) hx hb hts (fun _ h => List.mem_cons_of_mem _ (List.mem_append_right _ h)) hown hK hP 0 rfl rfl 13 (by decide) (hts (.fieldLink RX8 208 "WinterWalkModel" "traced" "I") (List.mem_of_getElem? (i := 1) rfl)) (fun _ h9 => h9) rfl dX8_begins_1 ?_
  refine lv_bipush (v := 16) hx hb dX8_begins_4 (by decide) ?_
  refine lv_icmp_ge (tgt := 29) hx hb dX8_begins_6 (by decide) (fun c_1 => ?_) (fun c_1 => ?_)
  · have f_1 : 16 ≤ tc.toInt := zi_le c_1
    exact wr_v hx hb hr hlocks hS (tc, trf) (by exact show 0 ≤ (tc : Int32).toInt ∧ (tc : Int32).toInt ≤ 16 from by omega) (hP.sub [0, 1] rfl) (hD.sub [0, 1] (by decide) rfl) dX8_begins_29
  · have f_1 : ¬ 16 ≤ tc.toInt := zi_nle c_1
    refine lv_aload_n hx hb dX8_begins_9 rfl (lv_at hl 0 rfl) ?_
    refine va_get (D := D) (ci := 7) (v := .ref tr) (C := RX8) (T := TX8) (N := 16) hx hb hts (fun _ h => List.mem_cons_of_mem _ (List.mem_append_right _ h)) hown hK hP 0 rfl rfl 12 (by decide) (hts (.fieldLink RX8 29 "WinterWalkModel" "trace" "[I") (List.mem_of_getElem? (i := 2) rfl)) (fun _ h9 => h9) rfl dX8_begins_10 ?_
    refine lv_aload_n hx hb dX8_begins_13 rfl (lv_at hl 0 rfl) ?_
    refine va_get (D := D) (ci := 7) (v := .int tc) (C := RX8) (T := TX8) (N := 16) hx hb hts (fun _ h => List.mem_cons_of_mem _ (List.mem_append_right _ h)) hown hK hP 0 rfl rfl 13 (by decide) (hts (.fieldLink RX8 208 "WinterWalkModel" "traced" "I") (List.mem_of_getElem? (i := 1) rfl)) (fun _ h9 => h9) rfl dX8_begins_14 ?_
    refine lv_iload_n hx hb dX8_begins_17 rfl (lv_at hl 1 rfl) ?_
    refine va_iast hx hb hK hP hD hS 1 0 rfl rfl (zi_in (by omega) (by omega)) dX8_begins_18 (fun H locs hP hD hS => ?_)
    have hP : va_P D kl [(h, .inr (7, [.ref sl, .int na, .ref zs, .ref ln, .ref ir, .ref tk, .int su, .int le, .ref tb, .int fu, .int ap, .int pp, .ref tr, .int tc, .ref fz, .int nm])), (tr, .inl (cI, 16, .inl (upd trf (tc : Int32).toNatClampNeg k)))] H := hP
    have hD : va_D A [(h, .inr (7, [.ref sl, .int na, .ref zs, .ref ln, .ref ir, .ref tk, .int su, .int le, .ref tb, .int fu, .int ap, .int pp, .ref tr, .int tc, .ref fz, .int nm])), (tr, .inl (cI, 16, .inl (upd trf (tc : Int32).toNatClampNeg k)))] := hD
    refine lv_aload_n hx hb dX8_begins_19 rfl (lv_at hl 0 rfl) ?_
    refine lv_dup hx hb dX8_begins_20 rfl ?_
    refine va_get (D := D) (ci := 7) (v := .int tc) (C := RX8) (T := TX8) (N := 16) hx hb hts (fun _ h => List.mem_cons_of_mem _ (List.mem_append_right _ h)) hown hK hP 0 rfl rfl 13 (by decide) (hts (.fieldLink RX8 208 "WinterWalkModel" "traced" "I") (List.mem_of_getElem? (i := 1) rfl)) (fun _ h9 => h9) rfl dX8_begins_21 ?_
    refine lv_iconst (v := 1) hx hb dX8_begins_24 (by decide) ?_
    refine lv_iadd hx hb dX8_begins_25 ?_
    refine lv_topi (fun x_2 ex_2 => ?_)
    have e_2 : x_2.toInt = tc.toInt + 1 := by rw [ex_2]; exact zi_add (rfl) (by decide) (by omega) (by omega)
    clear ex_2
    refine va_put (D := D) (ci := 7) (v := .int x_2) (ty := .int) (C := RX8) (T := TX8) (N := 16) hx hb hts (fun _ h => List.mem_cons_of_mem _ (List.mem_append_right _ h)) tyX8 tyX8_ok nmX8 hown hK hP hD hS 0 rfl rfl 13 (by decide) (hts (.fieldLink RX8 208 "WinterWalkModel" "traced" "I") (List.mem_of_getElem? (i := 1) rfl)) (fun _ h9 => h9) rfl (by decide +kernel) rfl rfl (Nat.le_of_ble_eq_true rfl) dX8_begins_26 (fun H locs hP hD hS => ?_)
    have hP : va_P D kl [(h, .inr (7, [.ref sl, .int na, .ref zs, .ref ln, .ref ir, .ref tk, .int su, .int le, .ref tb, .int fu, .int ap, .int pp, .ref tr, .int x_2, .ref fz, .int nm])), (tr, .inl (cI, 16, .inl (upd trf (tc : Int32).toNatClampNeg k)))] H := hP
    have hD : va_D A [(h, .inr (7, [.ref sl, .int na, .ref zs, .ref ln, .ref ir, .ref tk, .int su, .int le, .ref tb, .int fu, .int ap, .int pp, .ref tr, .int x_2, .ref fz, .int nm])), (tr, .inl (cI, 16, .inl (upd trf (tc : Int32).toNatClampNeg k)))] := hD
    exact wr_v hx hb hr hlocks hS (x_2, (upd trf (tc : Int32).toNatClampNeg k)) (by exact show 0 ≤ (x_2 : Int32).toInt ∧ (x_2 : Int32).toInt ≤ 16 from by omega) (hP.sub [0, 1] rfl) (hD.sub [0, 1] (by decide) rfl) dX8_begins_29
set_option maxHeartbeats 4000000 in
set_option maxRecDepth 100000 in
theorem g_X8_size10 (l : Launch) (D : va_G) (cI cB cQ : ClassId) (sz : Nat) (h : Nat) (sl : Nat) (zs : Nat) (ln : Nat) (ir : Nat) (tk : Nat) (tb : Nat) (tr : Nat) (fz : Nat) (na : Int32) (su : Int32) (le : Int32) (fu : Int32) (ap : Int32) (pp : Int32) (tc : Int32) (nm : Int32) (v : Int32) (sf : Nat → Int32) (trf : Nat → Int32) (v0 : Int) (hsi : SI sf v0) (h_na : 0 ≤ na.toInt ∧ na.toInt ≤ 24) (h_le : 0 ≤ le.toInt ∧ le.toInt ≤ 120) (h_ap : 0 ≤ ap.toInt ∧ ap.toInt ≤ 120) (h_tc : 0 ≤ tc.toInt ∧ tc.toInt ≤ 16) (h_v : 0 ≤ v.toInt ∧ v.toInt ≤ 2) : mi l yX8_size10 wsX8_size10 ({ frames := 1, cells := 0, slots := 0, locals := 21 }) D cI cB cQ [.ref h, .int v] sz [(h, .inr (7, [.ref sl, .int na, .ref zs, .ref ln, .ref ir, .ref tk, .int su, .int le, .ref tb, .int fu, .int ap, .int pp, .ref tr, .int tc, .ref fz, .int nm])), (sl, .inl (cI, 1653, .inl sf)), (tr, .inl (cI, 16, .inl trf))] (fun (r : Int32) (u : Int32 × (Nat → Int32)) => (0 ≤ u.1.toInt ∧ u.1.toInt ≤ 16)) (fun u => [(h, .inr (7, [.ref sl, .int na, .ref zs, .ref ln, .ref ir, .ref tk, .int su, .int le, .ref tb, .int fu, .int ap, .int pp, .ref tr, .int u.1, .ref fz, .int nm])), (sl, .inl (cI, 1653, .inl sf)), (tr, .inl (cI, 16, .inl u.2))]) 0 0 := by
  refine wm_i (cc := cX8_size10) (maxL := 2) (ret := (some .int)) (by decide) rfl (Nat.le_of_ble_eq_true rfl) ?_
  intro p e s m below meth c A ls hx hb hr hml hown hts hlocks hin hP hK hD hN hA hl hS
  have hown : s.vm.findClass RX8 = some m.cls := hown
  have hl : lv_has ls 2 [(0, .ref h), (1, .int v)] := hl
  change W p l e ({ frames := 1, cells := 0, slots := 0, locals := 21 }) s m ([.ref h, .int v] : List Value).toArray below meth c s.heap [] 0 0 (MQ below (va_Qi (fun (r : Int32) (u : Int32 × (Nat → Int32)) => (0 ≤ u.1.toInt ∧ u.1.toInt ≤ 16)) (fun u t => wb D A ((fun u => [(h, .inr (7, [.ref sl, .int na, .ref zs, .ref ln, .ref ir, .ref tk, .int su, .int le, .ref tb, .int fu, .int ap, .int pp, .ref tr, .int u.1, .ref fz, .int nm])), (sl, .inl (cI, 1653, .inl sf)), (tr, .inl (cI, 16, .inl u.2))]) u) t) A) ([.ref h, .int v] : List Value).toArray s 0 0 A) (F0 m 0 ls [])
  refine lv_aload_n hx hb dX8_size10_0 rfl (lv_at hl 0 rfl) ?_
  refine lv_bipush (v := 10) hx hb dX8_size10_1 (by decide) ?_
  have k_1 := (g_X8_begins l D cI cB cQ s.heap.size h sl zs ln ir tk tb tr fz na su le fu ap pp tc nm 10 trf (by omega) (by omega) (by omega) (by omega))
  refine wc_v (WC := [(h, .inr (7, [.ref sl, .int na, .ref zs, .ref ln, .ref ir, .ref tk, .int su, .int le, .ref tb, .int fu, .int ap, .int pp, .ref tr, .int tc, .ref fz, .int nm])), (tr, .inl (cI, 16, .inl trf))]) (WR := [(sl, .inl (cI, 1653, .inl sf))]) (va_runV (As := [.int 10]) (rest := []) ⟨hx, hb, hml, hown, hts⟩ k_1 (cwV 1 hts gX8_size10_X8_begins rfl rfl rfl (by decide +kernel) ⟨Nat.le_of_ble_eq_true rfl, Nat.le_of_ble_eq_true rfl⟩) (wp_V hP hK hD hN [0, 2] (by decide) rfl (ci := 7) rfl rfl) rfl rfl hl.1 rfl (lv_room (Nat.le_of_ble_eq_true rfl)) dX8_size10_3 ⟨Nat.le_of_ble_eq_true rfl, Nat.le_of_ble_eq_true rfl⟩) hP hD hS hA [0, 2] [1] rfl rfl (by decide) (by decide) (pe2 (fun v1_0 v1_1 H locs hw_1 hP hD hS => ?_))
  clear k_1
  have hP : va_P D kl [(sl, .inl (cI, 1653, .inl sf)), (h, .inr (7, [.ref sl, .int na, .ref zs, .ref ln, .ref ir, .ref tk, .int su, .int le, .ref tb, .int fu, .int ap, .int pp, .ref tr, .int v1_0, .ref fz, .int nm])), (tr, .inl (cI, 16, .inl v1_1))] H := hP
  have hD : va_D A [(sl, .inl (cI, 1653, .inl sf)), (h, .inr (7, [.ref sl, .int na, .ref zs, .ref ln, .ref ir, .ref tk, .int su, .int le, .ref tb, .int fu, .int ap, .int pp, .ref tr, .int v1_0, .ref fz, .int nm])), (tr, .inl (cI, 16, .inl v1_1))] := hD
  have c1_0 := hw_1
  have c1_0 : 0 ≤ v1_0.toInt ∧ v1_0.toInt ≤ 16 := c1_0
  refine lv_aload_n hx hb dX8_size10_6 rfl (lv_at hl 0 rfl) ?_
  refine va_get (D := D) (ci := 7) (v := .ref sl) (C := RX8) (T := TX8) (N := 16) hx hb hts (fun _ h => List.mem_cons_of_mem _ (List.mem_append_right _ h)) hown hK hP 1 rfl rfl 0 (by decide) (hts (.fieldLink RX8 7 "WinterWalkModel" "slot" "[I") (List.mem_of_getElem? (i := 1) rfl)) (fun _ h9 => h9) rfl dX8_size10_7 ?_
  refine lv_bipush (v := 48) hx hb dX8_size10_10 (by decide) ?_
  refine lv_iload_n hx hb dX8_size10_12 rfl (lv_at hl 1 rfl) ?_
  refine lv_iadd hx hb dX8_size10_13 ?_
  refine lv_topi (fun x_2 ex_2 => ?_)
  have e_2 : x_2.toInt = 48 + v.toInt := by rw [ex_2]; exact zi_add (by decide) (rfl) (by omega) (by omega)
  clear ex_2
  refine va_iald hx hb hK hP 0 0 rfl rfl (zi_in (by omega) (by omega)) dX8_size10_14 ?_
  refine lv_topi (fun x_3 ex_3 => ?_)
  have f_3 : 0 ≤ x_3.toInt ∧ x_3.toInt ≤ 7 := by rw [ex_3]; exact si_a hsi (s := 0) (k := v.toInt) (by omega) (by omega) (by omega)
  clear ex_3
  exact wr_i (v := x_3) hx hb hr hlocks hS (v1_0, v1_1) (by exact show 0 ≤ (v1_0 : Int32).toInt ∧ (v1_0 : Int32).toInt ≤ 16 from by omega) (hP.sub [1, 0, 2] rfl) (hD.sub [1, 0, 2] (by decide) rfl) dX8_size10_15
set_option maxHeartbeats 4000000 in
set_option maxRecDepth 100000 in
theorem g_X8_mark20 (l : Launch) (D : va_G) (cI cB cQ : ClassId) (sz : Nat) (h : Nat) (sl : Nat) (zs : Nat) (ln : Nat) (ir : Nat) (tk : Nat) (tb : Nat) (tr : Nat) (fz : Nat) (na : Int32) (su : Int32) (le : Int32) (fu : Int32) (ap : Int32) (pp : Int32) (tc : Int32) (nm : Int32) (v : Int32) (sf : Nat → Int32) (trf : Nat → Int32) (v0 : Int) (hsi : SI sf v0) (h_na : 0 ≤ na.toInt ∧ na.toInt ≤ 24) (h_le : 0 ≤ le.toInt ∧ le.toInt ≤ 120) (h_ap : 0 ≤ ap.toInt ∧ ap.toInt ≤ 120) (h_tc : 0 ≤ tc.toInt ∧ tc.toInt ≤ 16) (h_v : 0 ≤ v.toInt ∧ v.toInt ≤ 2) : mi l yX8_mark20 wsX8_mark20 ({ frames := 1, cells := 0, slots := 0, locals := 21 }) D cI cB cQ [.ref h, .int v] sz [(h, .inr (7, [.ref sl, .int na, .ref zs, .ref ln, .ref ir, .ref tk, .int su, .int le, .ref tb, .int fu, .int ap, .int pp, .ref tr, .int tc, .ref fz, .int nm])), (sl, .inl (cI, 1653, .inl sf)), (tr, .inl (cI, 16, .inl trf))] (fun (r : Int32) (u : Int32 × (Nat → Int32)) => (0 ≤ u.1.toInt ∧ u.1.toInt ≤ 16)) (fun u => [(h, .inr (7, [.ref sl, .int na, .ref zs, .ref ln, .ref ir, .ref tk, .int su, .int le, .ref tb, .int fu, .int ap, .int pp, .ref tr, .int u.1, .ref fz, .int nm])), (sl, .inl (cI, 1653, .inl sf)), (tr, .inl (cI, 16, .inl u.2))]) 0 0 := by
  refine wm_i (cc := cX8_mark20) (maxL := 2) (ret := (some .int)) (by decide) rfl (Nat.le_of_ble_eq_true rfl) ?_
  intro p e s m below meth c A ls hx hb hr hml hown hts hlocks hin hP hK hD hN hA hl hS
  have hown : s.vm.findClass RX8 = some m.cls := hown
  have hl : lv_has ls 2 [(0, .ref h), (1, .int v)] := hl
  change W p l e ({ frames := 1, cells := 0, slots := 0, locals := 21 }) s m ([.ref h, .int v] : List Value).toArray below meth c s.heap [] 0 0 (MQ below (va_Qi (fun (r : Int32) (u : Int32 × (Nat → Int32)) => (0 ≤ u.1.toInt ∧ u.1.toInt ≤ 16)) (fun u t => wb D A ((fun u => [(h, .inr (7, [.ref sl, .int na, .ref zs, .ref ln, .ref ir, .ref tk, .int su, .int le, .ref tb, .int fu, .int ap, .int pp, .ref tr, .int u.1, .ref fz, .int nm])), (sl, .inl (cI, 1653, .inl sf)), (tr, .inl (cI, 16, .inl u.2))]) u) t) A) ([.ref h, .int v] : List Value).toArray s 0 0 A) (F0 m 0 ls [])
  refine lv_aload_n hx hb dX8_mark20_0 rfl (lv_at hl 0 rfl) ?_
  refine lv_bipush (v := 20) hx hb dX8_mark20_1 (by decide) ?_
  have k_1 := (g_X8_begins l D cI cB cQ s.heap.size h sl zs ln ir tk tb tr fz na su le fu ap pp tc nm 20 trf (by omega) (by omega) (by omega) (by omega))
  refine wc_v (WC := [(h, .inr (7, [.ref sl, .int na, .ref zs, .ref ln, .ref ir, .ref tk, .int su, .int le, .ref tb, .int fu, .int ap, .int pp, .ref tr, .int tc, .ref fz, .int nm])), (tr, .inl (cI, 16, .inl trf))]) (WR := [(sl, .inl (cI, 1653, .inl sf))]) (va_runV (As := [.int 20]) (rest := []) ⟨hx, hb, hml, hown, hts⟩ k_1 (cwV 1 hts gX8_mark20_X8_begins rfl rfl rfl (by decide +kernel) ⟨Nat.le_of_ble_eq_true rfl, Nat.le_of_ble_eq_true rfl⟩) (wp_V hP hK hD hN [0, 2] (by decide) rfl (ci := 7) rfl rfl) rfl rfl hl.1 rfl (lv_room (Nat.le_of_ble_eq_true rfl)) dX8_mark20_3 ⟨Nat.le_of_ble_eq_true rfl, Nat.le_of_ble_eq_true rfl⟩) hP hD hS hA [0, 2] [1] rfl rfl (by decide) (by decide) (pe2 (fun v1_0 v1_1 H locs hw_1 hP hD hS => ?_))
  clear k_1
  have hP : va_P D kl [(sl, .inl (cI, 1653, .inl sf)), (h, .inr (7, [.ref sl, .int na, .ref zs, .ref ln, .ref ir, .ref tk, .int su, .int le, .ref tb, .int fu, .int ap, .int pp, .ref tr, .int v1_0, .ref fz, .int nm])), (tr, .inl (cI, 16, .inl v1_1))] H := hP
  have hD : va_D A [(sl, .inl (cI, 1653, .inl sf)), (h, .inr (7, [.ref sl, .int na, .ref zs, .ref ln, .ref ir, .ref tk, .int su, .int le, .ref tb, .int fu, .int ap, .int pp, .ref tr, .int v1_0, .ref fz, .int nm])), (tr, .inl (cI, 16, .inl v1_1))] := hD
  have c1_0 := hw_1
  have c1_0 : 0 ≤ v1_0.toInt ∧ v1_0.toInt ≤ 16 := c1_0
  refine lv_iload_n hx hb dX8_mark20_6 rfl (lv_at hl 1 rfl) ?_
  exact wr_i (v := v) hx hb hr hlocks hS (v1_0, v1_1) (by exact show 0 ≤ (v1_0 : Int32).toInt ∧ (v1_0 : Int32).toInt ≤ 16 from by omega) (hP.sub [1, 0, 2] rfl) (hD.sub [1, 0, 2] (by decide) rfl) dX8_mark20_7
set_option maxHeartbeats 4000000 in
set_option maxRecDepth 100000 in
theorem g_X8_mark21 (l : Launch) (D : va_G) (cI cB cQ : ClassId) (sz : Nat) (h : Nat) (sl : Nat) (zs : Nat) (ln : Nat) (ir : Nat) (tk : Nat) (tb : Nat) (tr : Nat) (fz : Nat) (na : Int32) (su : Int32) (le : Int32) (fu : Int32) (ap : Int32) (pp : Int32) (tc : Int32) (nm : Int32) (v : Int32) (sf : Nat → Int32) (trf : Nat → Int32) (v0 : Int) (hsi : SI sf v0) (h_na : 0 ≤ na.toInt ∧ na.toInt ≤ 24) (h_le : 0 ≤ le.toInt ∧ le.toInt ≤ 120) (h_ap : 0 ≤ ap.toInt ∧ ap.toInt ≤ 120) (h_tc : 0 ≤ tc.toInt ∧ tc.toInt ≤ 16) (h_v : 0 ≤ v.toInt ∧ v.toInt ≤ 2) : mi l yX8_mark21 wsX8_mark21 ({ frames := 2, cells := 0, slots := 0, locals := 42 }) D cI cB cQ [.ref h, .int v] sz [(h, .inr (7, [.ref sl, .int na, .ref zs, .ref ln, .ref ir, .ref tk, .int su, .int le, .ref tb, .int fu, .int ap, .int pp, .ref tr, .int tc, .ref fz, .int nm])), (sl, .inl (cI, 1653, .inl sf)), (tr, .inl (cI, 16, .inl trf))] (fun (r : Int32) (u : Int32 × (Nat → Int32)) => (0 ≤ u.1.toInt ∧ u.1.toInt ≤ 16)) (fun u => [(h, .inr (7, [.ref sl, .int na, .ref zs, .ref ln, .ref ir, .ref tk, .int su, .int le, .ref tb, .int fu, .int ap, .int pp, .ref tr, .int u.1, .ref fz, .int nm])), (sl, .inl (cI, 1653, .inl sf)), (tr, .inl (cI, 16, .inl u.2))]) 0 0 := by
  refine wm_i (cc := cX8_mark21) (maxL := 3) (ret := (some .int)) (by decide) rfl (Nat.le_of_ble_eq_true rfl) ?_
  intro p e s m below meth c A ls hx hb hr hml hown hts hlocks hin hP hK hD hN hA hl hS
  have hown : s.vm.findClass RX8 = some m.cls := hown
  have hl : lv_has ls 3 [(0, .ref h), (1, .int v)] := hl
  change W p l e ({ frames := 2, cells := 0, slots := 0, locals := 42 }) s m ([.ref h, .int v] : List Value).toArray below meth c s.heap [] 0 0 (MQ below (va_Qi (fun (r : Int32) (u : Int32 × (Nat → Int32)) => (0 ≤ u.1.toInt ∧ u.1.toInt ≤ 16)) (fun u t => wb D A ((fun u => [(h, .inr (7, [.ref sl, .int na, .ref zs, .ref ln, .ref ir, .ref tk, .int su, .int le, .ref tb, .int fu, .int ap, .int pp, .ref tr, .int u.1, .ref fz, .int nm])), (sl, .inl (cI, 1653, .inl sf)), (tr, .inl (cI, 16, .inl u.2))]) u) t) A) ([.ref h, .int v] : List Value).toArray s 0 0 A) (F0 m 0 ls [])
  refine lv_aload_n hx hb dX8_mark21_0 rfl (lv_at hl 0 rfl) ?_
  refine lv_bipush (v := 21) hx hb dX8_mark21_1 (by decide) ?_
  have k_1 := (g_X8_begins l D cI cB cQ s.heap.size h sl zs ln ir tk tb tr fz na su le fu ap pp tc nm 21 trf (by omega) (by omega) (by omega) (by omega))
  refine wc_v (WC := [(h, .inr (7, [.ref sl, .int na, .ref zs, .ref ln, .ref ir, .ref tk, .int su, .int le, .ref tb, .int fu, .int ap, .int pp, .ref tr, .int tc, .ref fz, .int nm])), (tr, .inl (cI, 16, .inl trf))]) (WR := [(sl, .inl (cI, 1653, .inl sf))]) (va_runV (As := [.int 21]) (rest := []) ⟨hx, hb, hml, hown, hts⟩ k_1 (cwV 1 hts gX8_mark21_X8_begins rfl rfl rfl (by decide +kernel) ⟨Nat.le_of_ble_eq_true rfl, Nat.le_of_ble_eq_true rfl⟩) (wp_V hP hK hD hN [0, 2] (by decide) rfl (ci := 7) rfl rfl) rfl rfl hl.1 rfl (lv_room (Nat.le_of_ble_eq_true rfl)) dX8_mark21_3 ⟨Nat.le_of_ble_eq_true rfl, Nat.le_of_ble_eq_true rfl⟩) hP hD hS hA [0, 2] [1] rfl rfl (by decide) (by decide) (pe2 (fun v1_0 v1_1 H locs hw_1 hP hD hS => ?_))
  clear k_1
  have hP : va_P D kl [(sl, .inl (cI, 1653, .inl sf)), (h, .inr (7, [.ref sl, .int na, .ref zs, .ref ln, .ref ir, .ref tk, .int su, .int le, .ref tb, .int fu, .int ap, .int pp, .ref tr, .int v1_0, .ref fz, .int nm])), (tr, .inl (cI, 16, .inl v1_1))] H := hP
  have hD : va_D A [(sl, .inl (cI, 1653, .inl sf)), (h, .inr (7, [.ref sl, .int na, .ref zs, .ref ln, .ref ir, .ref tk, .int su, .int le, .ref tb, .int fu, .int ap, .int pp, .ref tr, .int v1_0, .ref fz, .int nm])), (tr, .inl (cI, 16, .inl v1_1))] := hD
  have c1_0 := hw_1
  have c1_0 : 0 ≤ v1_0.toInt ∧ v1_0.toInt ≤ 16 := c1_0
  refine lv_aload_n hx hb dX8_mark21_6 rfl (lv_at hl 0 rfl) ?_
  refine lv_iload_n hx hb dX8_mark21_7 rfl (lv_at hl 1 rfl) ?_
  have k_2 := (g_X8_mark20 l D cI cB cQ H.size h sl zs ln ir tk tb tr fz na su le fu ap pp v1_0 nm v sf v1_1 v0 hsi (by omega) (by omega) (by omega) (by omega) (by omega))
  refine wc_i (WC := [(h, .inr (7, [.ref sl, .int na, .ref zs, .ref ln, .ref ir, .ref tk, .int su, .int le, .ref tb, .int fu, .int ap, .int pp, .ref tr, .int v1_0, .ref fz, .int nm])), (sl, .inl (cI, 1653, .inl sf)), (tr, .inl (cI, 16, .inl v1_1))]) (WR := []) (va_runV (As := [.int v]) (rest := []) ⟨hx, hb, hml, hown, hts⟩ k_2 (cwV 1 hts gX8_mark21_X8_mark20 rfl rfl rfl (by decide +kernel) ⟨Nat.le_of_ble_eq_true rfl, Nat.le_of_ble_eq_true rfl⟩) (wp_V hP hK hD hN [1, 0, 2] (by decide) rfl (ci := 7) rfl rfl) rfl rfl hl.1 rfl (lv_room (Nat.le_of_ble_eq_true rfl)) dX8_mark21_8 ⟨Nat.le_of_ble_eq_true rfl, Nat.le_of_ble_eq_true rfl⟩) hP hD hS hA [1, 0, 2] [] rfl rfl (by decide) (by decide) (fun r_2 => pe2 (fun v2_0 v2_1 H locs hw_2 hP hD hS => ?_))
  clear k_2
  have hP : va_P D kl [(h, .inr (7, [.ref sl, .int na, .ref zs, .ref ln, .ref ir, .ref tk, .int su, .int le, .ref tb, .int fu, .int ap, .int pp, .ref tr, .int v2_0, .ref fz, .int nm])), (sl, .inl (cI, 1653, .inl sf)), (tr, .inl (cI, 16, .inl v2_1))] H := hP
  have hD : va_D A [(h, .inr (7, [.ref sl, .int na, .ref zs, .ref ln, .ref ir, .ref tk, .int su, .int le, .ref tb, .int fu, .int ap, .int pp, .ref tr, .int v2_0, .ref fz, .int nm])), (sl, .inl (cI, 1653, .inl sf)), (tr, .inl (cI, 16, .inl v2_1))] := hD
  have c2_0 := hw_2
  have c2_0 : 0 ≤ v2_0.toInt ∧ v2_0.toInt ≤ 16 := c2_0
  refine lv_istore_n (lv' := [(2, .int r_2), (0, .ref h), (1, .int v)]) hx hb dX8_mark21_11 rfl hl (by decide) rfl (fun ls hl => ?_)
  refine lv_iload_n hx hb dX8_mark21_12 rfl (lv_at hl 0 rfl) ?_
  refine lv_aload_n hx hb dX8_mark21_13 rfl (lv_at hl 1 rfl) ?_
  refine va_get (D := D) (ci := 7) (v := .ref sl) (C := RX8) (T := TX8) (N := 16) hx hb hts (fun _ h => List.mem_cons_of_mem _ (List.mem_append_right _ h)) hown hK hP 0 rfl rfl 0 (by decide) (hts (.fieldLink RX8 7 "WinterWalkModel" "slot" "[I") (List.mem_of_getElem? (i := 1) rfl)) (fun _ h9 => h9) rfl dX8_mark21_14 ?_
  refine lv_bipush (v := 23) hx hb dX8_mark21_17 (by decide) ?_
  refine lv_aload_n hx hb dX8_mark21_19 rfl (lv_at hl 1 rfl) ?_
  refine va_get (D := D) (ci := 7) (v := .ref sl) (C := RX8) (T := TX8) (N := 16) hx hb hts (fun _ h => List.mem_cons_of_mem _ (List.mem_append_right _ h)) hown hK hP 0 rfl rfl 0 (by decide) (hts (.fieldLink RX8 7 "WinterWalkModel" "slot" "[I") (List.mem_of_getElem? (i := 1) rfl)) (fun _ h9 => h9) rfl dX8_mark21_20 ?_
  refine lv_bipush (v := 48) hx hb dX8_mark21_23 (by decide) ?_
  refine lv_iload_n hx hb dX8_mark21_25 rfl (lv_at hl 2 rfl) ?_
  refine lv_iadd hx hb dX8_mark21_26 ?_
  refine lv_topi (fun x_3 ex_3 => ?_)
  have e_3 : x_3.toInt = 48 + v.toInt := by rw [ex_3]; exact zi_add (by decide) (rfl) (by omega) (by omega)
  clear ex_3
  refine va_iald hx hb hK hP 1 0 rfl rfl (zi_in (by omega) (by omega)) dX8_mark21_27 ?_
  refine lv_topi (fun x_4 ex_4 => ?_)
  have f_4 : 0 ≤ x_4.toInt ∧ x_4.toInt ≤ 7 := by rw [ex_4]; exact si_a hsi (s := 0) (k := v.toInt) (by omega) (by omega) (by omega)
  clear ex_4
  refine lv_iadd hx hb dX8_mark21_28 ?_
  refine lv_topi (fun x_5 ex_5 => ?_)
  have e_5 : x_5.toInt = 23 + x_4.toInt := by rw [ex_5]; exact zi_add (by decide) (rfl) (by omega) (by omega)
  clear ex_5
  refine va_iald hx hb hK hP 1 0 rfl rfl (zi_in (by omega) (by omega)) dX8_mark21_29 ?_
  refine lv_topi (fun x_6 ex_6 => ?_)
  clear ex_6
  refine lv_iadd hx hb dX8_mark21_30 ?_
  refine lv_topi (fun x_7 ex_7 => ?_)
  clear ex_7
  exact wr_i (v := x_7) hx hb hr hlocks hS (v2_0, v2_1) (by exact show 0 ≤ (v2_0 : Int32).toInt ∧ (v2_0 : Int32).toInt ≤ 16 from by omega) (hP.sub [0, 1, 2] rfl) (hD.sub [0, 1, 2] (by decide) rfl) dX8_mark21_31
set_option maxHeartbeats 4000000 in
set_option maxRecDepth 100000 in
theorem g_X8_markOld (l : Launch) (D : va_G) (cI cB cQ : ClassId) (sz : Nat) (h : Nat) (sl : Nat) (zs : Nat) (ln : Nat) (ir : Nat) (tk : Nat) (tb : Nat) (tr : Nat) (fz : Nat) (na : Int32) (su : Int32) (le : Int32) (fu : Int32) (ap : Int32) (pp : Int32) (tc : Int32) (nm : Int32) (v : Int32) (sf : Nat → Int32) (trf : Nat → Int32) (v0 : Int) (hsi : SI sf v0) (h_na : 0 ≤ na.toInt ∧ na.toInt ≤ 24) (h_le : 0 ≤ le.toInt ∧ le.toInt ≤ 120) (h_ap : 0 ≤ ap.toInt ∧ ap.toInt ≤ 120) (h_tc : 0 ≤ tc.toInt ∧ tc.toInt ≤ 16) (h_v : 0 ≤ v.toInt ∧ v.toInt ≤ 2) : mi l yX8_markOld wsX8_markOld ({ frames := 3, cells := 0, slots := 0, locals := 64 }) D cI cB cQ [.ref h, .int v] sz [(h, .inr (7, [.ref sl, .int na, .ref zs, .ref ln, .ref ir, .ref tk, .int su, .int le, .ref tb, .int fu, .int ap, .int pp, .ref tr, .int tc, .ref fz, .int nm])), (sl, .inl (cI, 1653, .inl sf)), (tr, .inl (cI, 16, .inl trf))] (fun (r : Int32) (u : Int32 × (Nat → Int32)) => (0 ≤ u.1.toInt ∧ u.1.toInt ≤ 16)) (fun u => [(h, .inr (7, [.ref sl, .int na, .ref zs, .ref ln, .ref ir, .ref tk, .int su, .int le, .ref tb, .int fu, .int ap, .int pp, .ref tr, .int u.1, .ref fz, .int nm])), (sl, .inl (cI, 1653, .inl sf)), (tr, .inl (cI, 16, .inl u.2))]) 0 0 := by
  refine wm_i (cc := cX8_markOld) (maxL := 4) (ret := (some .int)) (by decide) rfl (Nat.le_of_ble_eq_true rfl) ?_
  intro p e s m below meth c A ls hx hb hr hml hown hts hlocks hin hP hK hD hN hA hl hS
  have hown : s.vm.findClass RX8 = some m.cls := hown
  have hl : lv_has ls 4 [(0, .ref h), (1, .int v)] := hl
  change W p l e ({ frames := 3, cells := 0, slots := 0, locals := 64 }) s m ([.ref h, .int v] : List Value).toArray below meth c s.heap [] 0 0 (MQ below (va_Qi (fun (r : Int32) (u : Int32 × (Nat → Int32)) => (0 ≤ u.1.toInt ∧ u.1.toInt ≤ 16)) (fun u t => wb D A ((fun u => [(h, .inr (7, [.ref sl, .int na, .ref zs, .ref ln, .ref ir, .ref tk, .int su, .int le, .ref tb, .int fu, .int ap, .int pp, .ref tr, .int u.1, .ref fz, .int nm])), (sl, .inl (cI, 1653, .inl sf)), (tr, .inl (cI, 16, .inl u.2))]) u) t) A) ([.ref h, .int v] : List Value).toArray s 0 0 A) (F0 m 0 ls [])
  refine lv_aload_n hx hb dX8_markOld_0 rfl (lv_at hl 0 rfl) ?_
  refine va_get (D := D) (ci := 7) (v := .ref sl) (C := RX8) (T := TX8) (N := 16) hx hb hts (fun _ h => List.mem_cons_of_mem _ (List.mem_append_right _ h)) hown hK hP 0 rfl rfl 0 (by decide) (hts (.fieldLink RX8 7 "WinterWalkModel" "slot" "[I") (List.mem_of_getElem? (i := 1) rfl)) (fun _ h9 => h9) rfl dX8_markOld_1 ?_
  refine lv_bipush (v := 20) hx hb dX8_markOld_4 (by decide) ?_
  refine lv_iload_n hx hb dX8_markOld_6 rfl (lv_at hl 1 rfl) ?_
  refine lv_iadd hx hb dX8_markOld_7 ?_
  refine lv_topi (fun x_1 ex_1 => ?_)
  have e_1 : x_1.toInt = 20 + v.toInt := by rw [ex_1]; exact zi_add (by decide) (rfl) (by omega) (by omega)
  clear ex_1
  refine va_iald hx hb hK hP 1 0 rfl rfl (zi_in (by omega) (by omega)) dX8_markOld_8 ?_
  refine lv_topi (fun x_2 ex_2 => ?_)
  clear ex_2
  refine lv_istore_n (lv' := [(2, .int x_2), (0, .ref h), (1, .int v)]) hx hb dX8_markOld_9 rfl hl (by decide) rfl (fun ls hl => ?_)
  refine lv_iload_n hx hb dX8_markOld_10 rfl (lv_at hl 0 rfl) ?_
  refine lv_iconst (v := 1) hx hb dX8_markOld_11 (by decide) ?_
  refine lv_icmp_ne (tgt := 21) hx hb dX8_markOld_12 (by decide) (fun c_3 => ?_) (fun c_3 => ?_)
  · have f_3 : ¬ x_2.toInt = 1 := zi_ne c_3
    refine lv_aload_n hx hb dX8_markOld_21 rfl (lv_at hl 1 rfl) ?_
    refine lv_iload_n hx hb dX8_markOld_22 rfl (lv_at hl 0 rfl) ?_
    refine lv_iconst (v := 3) hx hb dX8_markOld_23 (by decide) ?_
    refine lv_icmp_ne (tgt := 32) hx hb dX8_markOld_24 (by decide) (fun c_4 => ?_) (fun c_4 => ?_)
    · have f_4 : ¬ x_2.toInt = 3 := zi_ne c_4
      refine lv_bipush (v := 24) hx hb dX8_markOld_32 (by decide) ?_
      have k_5 := (g_X8_begins l D cI cB cQ s.heap.size h sl zs ln ir tk tb tr fz na su le fu ap pp tc nm 24 trf (by omega) (by omega) (by omega) (by omega))
      refine wc_v (WC := [(h, .inr (7, [.ref sl, .int na, .ref zs, .ref ln, .ref ir, .ref tk, .int su, .int le, .ref tb, .int fu, .int ap, .int pp, .ref tr, .int tc, .ref fz, .int nm])), (tr, .inl (cI, 16, .inl trf))]) (WR := [(sl, .inl (cI, 1653, .inl sf))]) (va_runV (As := [.int 24]) (rest := []) ⟨hx, hb, hml, hown, hts⟩ k_5 (cwV 1 hts gX8_markOld_X8_begins rfl rfl rfl (by decide +kernel) ⟨Nat.le_of_ble_eq_true rfl, Nat.le_of_ble_eq_true rfl⟩) (wp_V hP hK hD hN [0, 2] (by decide) rfl (ci := 7) rfl rfl) rfl rfl hl.1 rfl (lv_room (Nat.le_of_ble_eq_true rfl)) dX8_markOld_34 ⟨Nat.le_of_ble_eq_true rfl, Nat.le_of_ble_eq_true rfl⟩) hP hD hS hA [0, 2] [1] rfl rfl (by decide) (by decide) (pe2 (fun v5_0 v5_1 H locs hw_5 hP hD hS => ?_))
      clear k_5
      have hP : va_P D kl [(sl, .inl (cI, 1653, .inl sf)), (h, .inr (7, [.ref sl, .int na, .ref zs, .ref ln, .ref ir, .ref tk, .int su, .int le, .ref tb, .int fu, .int ap, .int pp, .ref tr, .int v5_0, .ref fz, .int nm])), (tr, .inl (cI, 16, .inl v5_1))] H := hP
      have hD : va_D A [(sl, .inl (cI, 1653, .inl sf)), (h, .inr (7, [.ref sl, .int na, .ref zs, .ref ln, .ref ir, .ref tk, .int su, .int le, .ref tb, .int fu, .int ap, .int pp, .ref tr, .int v5_0, .ref fz, .int nm])), (tr, .inl (cI, 16, .inl v5_1))] := hD
      have c5_0 := hw_5
      have c5_0 : 0 ≤ v5_0.toInt ∧ v5_0.toInt ≤ 16 := c5_0
      refine lv_aload_n hx hb dX8_markOld_37 rfl (lv_at hl 1 rfl) ?_
      refine lv_iload_n hx hb dX8_markOld_38 rfl (lv_at hl 2 rfl) ?_
      have k_6 := (g_X8_mark21 l D cI cB cQ H.size h sl zs ln ir tk tb tr fz na su le fu ap pp v5_0 nm v sf v5_1 v0 hsi (by omega) (by omega) (by omega) (by omega) (by omega))
      refine wc_i (WC := [(h, .inr (7, [.ref sl, .int na, .ref zs, .ref ln, .ref ir, .ref tk, .int su, .int le, .ref tb, .int fu, .int ap, .int pp, .ref tr, .int v5_0, .ref fz, .int nm])), (sl, .inl (cI, 1653, .inl sf)), (tr, .inl (cI, 16, .inl v5_1))]) (WR := []) (va_runV (As := [.int v]) (rest := []) ⟨hx, hb, hml, hown, hts⟩ k_6 (cwV 1 hts gX8_markOld_X8_mark21 rfl rfl rfl (by decide +kernel) ⟨Nat.le_of_ble_eq_true rfl, Nat.le_of_ble_eq_true rfl⟩) (wp_V hP hK hD hN [1, 0, 2] (by decide) rfl (ci := 7) rfl rfl) rfl rfl hl.1 rfl (lv_room (Nat.le_of_ble_eq_true rfl)) dX8_markOld_39 ⟨Nat.le_of_ble_eq_true rfl, Nat.le_of_ble_eq_true rfl⟩) hP hD hS hA [1, 0, 2] [] rfl rfl (by decide) (by decide) (fun r_6 => pe2 (fun v6_0 v6_1 H locs hw_6 hP hD hS => ?_))
      clear k_6
      have hP : va_P D kl [(h, .inr (7, [.ref sl, .int na, .ref zs, .ref ln, .ref ir, .ref tk, .int su, .int le, .ref tb, .int fu, .int ap, .int pp, .ref tr, .int v6_0, .ref fz, .int nm])), (sl, .inl (cI, 1653, .inl sf)), (tr, .inl (cI, 16, .inl v6_1))] H := hP
      have hD : va_D A [(h, .inr (7, [.ref sl, .int na, .ref zs, .ref ln, .ref ir, .ref tk, .int su, .int le, .ref tb, .int fu, .int ap, .int pp, .ref tr, .int v6_0, .ref fz, .int nm])), (sl, .inl (cI, 1653, .inl sf)), (tr, .inl (cI, 16, .inl v6_1))] := hD
      have c6_0 := hw_6
      have c6_0 : 0 ≤ v6_0.toInt ∧ v6_0.toInt ≤ 16 := c6_0
      refine lv_istore_n (lv' := [(3, .int r_6), (2, .int x_2), (0, .ref h), (1, .int v)]) hx hb dX8_markOld_42 rfl hl (by decide) rfl (fun ls hl => ?_)
      refine lv_iload_n hx hb dX8_markOld_43 rfl (lv_at hl 1 rfl) ?_
      refine lv_iconst (v := 3) hx hb dX8_markOld_44 (by decide) ?_
      refine lv_icmp_ne (tgt := 56) hx hb dX8_markOld_45 (by decide) (fun c_7 => ?_) (fun c_7 => ?_)
      · have f_7 : ¬ x_2.toInt = 3 := zi_ne c_7
        refine lv_iconst (v := 2) hx hb dX8_markOld_56 (by decide) ?_
        refine lv_iload_n hx hb dX8_markOld_57 rfl (lv_at hl 0 rfl) ?_
        refine lv_imul hx hb dX8_markOld_58 ?_
        refine lv_topi (fun x_8 ex_8 => ?_)
        clear ex_8
        exact wr_i (v := x_8) hx hb hr hlocks hS (v6_0, v6_1) (by exact show 0 ≤ (v6_0 : Int32).toInt ∧ (v6_0 : Int32).toInt ≤ 16 from by omega) (hP.sub [0, 1, 2] rfl) (hD.sub [0, 1, 2] (by decide) rfl) dX8_markOld_59
      · have f_7 : x_2.toInt = 3 := zi_eq c_7
        refine lv_iload_n hx hb dX8_markOld_48 rfl (lv_at hl 0 rfl) ?_
        refine lv_sipush (v := 1000) hx hb dX8_markOld_49 (by decide) ?_
        refine lv_isub hx hb dX8_markOld_52 ?_
        refine lv_topi (fun x_9 ex_9 => ?_)
        clear ex_9
        refine lv_goto (tgt := 59) hx hb dX8_markOld_53 (by decide) ?_
        exact wr_i (v := x_9) hx hb hr hlocks hS (v6_0, v6_1) (by exact show 0 ≤ (v6_0 : Int32).toInt ∧ (v6_0 : Int32).toInt ≤ 16 from by omega) (hP.sub [0, 1, 2] rfl) (hD.sub [0, 1, 2] (by decide) rfl) dX8_markOld_59
    · have f_4 : x_2.toInt = 3 := zi_eq c_4
      refine lv_bipush (v := 22) hx hb dX8_markOld_27 (by decide) ?_
      refine lv_goto (tgt := 34) hx hb dX8_markOld_29 (by decide) ?_
      have k_10 := (g_X8_begins l D cI cB cQ s.heap.size h sl zs ln ir tk tb tr fz na su le fu ap pp tc nm 22 trf (by omega) (by omega) (by omega) (by omega))
      refine wc_v (WC := [(h, .inr (7, [.ref sl, .int na, .ref zs, .ref ln, .ref ir, .ref tk, .int su, .int le, .ref tb, .int fu, .int ap, .int pp, .ref tr, .int tc, .ref fz, .int nm])), (tr, .inl (cI, 16, .inl trf))]) (WR := [(sl, .inl (cI, 1653, .inl sf))]) (va_runV (As := [.int 22]) (rest := []) ⟨hx, hb, hml, hown, hts⟩ k_10 (cwV 1 hts gX8_markOld_X8_begins rfl rfl rfl (by decide +kernel) ⟨Nat.le_of_ble_eq_true rfl, Nat.le_of_ble_eq_true rfl⟩) (wp_V hP hK hD hN [0, 2] (by decide) rfl (ci := 7) rfl rfl) rfl rfl hl.1 rfl (lv_room (Nat.le_of_ble_eq_true rfl)) dX8_markOld_34 ⟨Nat.le_of_ble_eq_true rfl, Nat.le_of_ble_eq_true rfl⟩) hP hD hS hA [0, 2] [1] rfl rfl (by decide) (by decide) (pe2 (fun v10_0 v10_1 H locs hw_10 hP hD hS => ?_))
      clear k_10
      have hP : va_P D kl [(sl, .inl (cI, 1653, .inl sf)), (h, .inr (7, [.ref sl, .int na, .ref zs, .ref ln, .ref ir, .ref tk, .int su, .int le, .ref tb, .int fu, .int ap, .int pp, .ref tr, .int v10_0, .ref fz, .int nm])), (tr, .inl (cI, 16, .inl v10_1))] H := hP
      have hD : va_D A [(sl, .inl (cI, 1653, .inl sf)), (h, .inr (7, [.ref sl, .int na, .ref zs, .ref ln, .ref ir, .ref tk, .int su, .int le, .ref tb, .int fu, .int ap, .int pp, .ref tr, .int v10_0, .ref fz, .int nm])), (tr, .inl (cI, 16, .inl v10_1))] := hD
      have c10_0 := hw_10
      have c10_0 : 0 ≤ v10_0.toInt ∧ v10_0.toInt ≤ 16 := c10_0
      refine lv_aload_n hx hb dX8_markOld_37 rfl (lv_at hl 1 rfl) ?_
      refine lv_iload_n hx hb dX8_markOld_38 rfl (lv_at hl 2 rfl) ?_
      have k_11 := (g_X8_mark21 l D cI cB cQ H.size h sl zs ln ir tk tb tr fz na su le fu ap pp v10_0 nm v sf v10_1 v0 hsi (by omega) (by omega) (by omega) (by omega) (by omega))
      refine wc_i (WC := [(h, .inr (7, [.ref sl, .int na, .ref zs, .ref ln, .ref ir, .ref tk, .int su, .int le, .ref tb, .int fu, .int ap, .int pp, .ref tr, .int v10_0, .ref fz, .int nm])), (sl, .inl (cI, 1653, .inl sf)), (tr, .inl (cI, 16, .inl v10_1))]) (WR := []) (va_runV (As := [.int v]) (rest := []) ⟨hx, hb, hml, hown, hts⟩ k_11 (cwV 1 hts gX8_markOld_X8_mark21 rfl rfl rfl (by decide +kernel) ⟨Nat.le_of_ble_eq_true rfl, Nat.le_of_ble_eq_true rfl⟩) (wp_V hP hK hD hN [1, 0, 2] (by decide) rfl (ci := 7) rfl rfl) rfl rfl hl.1 rfl (lv_room (Nat.le_of_ble_eq_true rfl)) dX8_markOld_39 ⟨Nat.le_of_ble_eq_true rfl, Nat.le_of_ble_eq_true rfl⟩) hP hD hS hA [1, 0, 2] [] rfl rfl (by decide) (by decide) (fun r_11 => pe2 (fun v11_0 v11_1 H locs hw_11 hP hD hS => ?_))
      clear k_11
      have hP : va_P D kl [(h, .inr (7, [.ref sl, .int na, .ref zs, .ref ln, .ref ir, .ref tk, .int su, .int le, .ref tb, .int fu, .int ap, .int pp, .ref tr, .int v11_0, .ref fz, .int nm])), (sl, .inl (cI, 1653, .inl sf)), (tr, .inl (cI, 16, .inl v11_1))] H := hP
      have hD : va_D A [(h, .inr (7, [.ref sl, .int na, .ref zs, .ref ln, .ref ir, .ref tk, .int su, .int le, .ref tb, .int fu, .int ap, .int pp, .ref tr, .int v11_0, .ref fz, .int nm])), (sl, .inl (cI, 1653, .inl sf)), (tr, .inl (cI, 16, .inl v11_1))] := hD
      have c11_0 := hw_11
      have c11_0 : 0 ≤ v11_0.toInt ∧ v11_0.toInt ≤ 16 := c11_0
      refine lv_istore_n (lv' := [(3, .int r_11), (2, .int x_2), (0, .ref h), (1, .int v)]) hx hb dX8_markOld_42 rfl hl (by decide) rfl (fun ls hl => ?_)
      refine lv_iload_n hx hb dX8_markOld_43 rfl (lv_at hl 1 rfl) ?_
      refine lv_iconst (v := 3) hx hb dX8_markOld_44 (by decide) ?_
      refine lv_icmp_ne (tgt := 56) hx hb dX8_markOld_45 (by decide) (fun c_12 => ?_) (fun c_12 => ?_)
      · have f_12 : ¬ x_2.toInt = 3 := zi_ne c_12
        refine lv_iconst (v := 2) hx hb dX8_markOld_56 (by decide) ?_
        refine lv_iload_n hx hb dX8_markOld_57 rfl (lv_at hl 0 rfl) ?_
        refine lv_imul hx hb dX8_markOld_58 ?_
        refine lv_topi (fun x_13 ex_13 => ?_)
        clear ex_13
        exact wr_i (v := x_13) hx hb hr hlocks hS (v11_0, v11_1) (by exact show 0 ≤ (v11_0 : Int32).toInt ∧ (v11_0 : Int32).toInt ≤ 16 from by omega) (hP.sub [0, 1, 2] rfl) (hD.sub [0, 1, 2] (by decide) rfl) dX8_markOld_59
      · have f_12 : x_2.toInt = 3 := zi_eq c_12
        refine lv_iload_n hx hb dX8_markOld_48 rfl (lv_at hl 0 rfl) ?_
        refine lv_sipush (v := 1000) hx hb dX8_markOld_49 (by decide) ?_
        refine lv_isub hx hb dX8_markOld_52 ?_
        refine lv_topi (fun x_14 ex_14 => ?_)
        clear ex_14
        refine lv_goto (tgt := 59) hx hb dX8_markOld_53 (by decide) ?_
        exact wr_i (v := x_14) hx hb hr hlocks hS (v11_0, v11_1) (by exact show 0 ≤ (v11_0 : Int32).toInt ∧ (v11_0 : Int32).toInt ≤ 16 from by omega) (hP.sub [0, 1, 2] rfl) (hD.sub [0, 1, 2] (by decide) rfl) dX8_markOld_59
  · have f_3 : x_2.toInt = 1 := zi_eq c_3
    refine lv_aload_n hx hb dX8_markOld_15 rfl (lv_at hl 1 rfl) ?_
    refine lv_iload_n hx hb dX8_markOld_16 rfl (lv_at hl 2 rfl) ?_
    have k_15 := (g_X8_mark21 l D cI cB cQ s.heap.size h sl zs ln ir tk tb tr fz na su le fu ap pp tc nm v sf trf v0 hsi (by omega) (by omega) (by omega) (by omega) (by omega))
    refine wc_i (WC := [(h, .inr (7, [.ref sl, .int na, .ref zs, .ref ln, .ref ir, .ref tk, .int su, .int le, .ref tb, .int fu, .int ap, .int pp, .ref tr, .int tc, .ref fz, .int nm])), (sl, .inl (cI, 1653, .inl sf)), (tr, .inl (cI, 16, .inl trf))]) (WR := []) (va_runV (As := [.int v]) (rest := []) ⟨hx, hb, hml, hown, hts⟩ k_15 (cwV 1 hts gX8_markOld_X8_mark21 rfl rfl rfl (by decide +kernel) ⟨Nat.le_of_ble_eq_true rfl, Nat.le_of_ble_eq_true rfl⟩) (wp_V hP hK hD hN [0, 1, 2] (by decide) rfl (ci := 7) rfl rfl) rfl rfl hl.1 rfl (lv_room (Nat.le_of_ble_eq_true rfl)) dX8_markOld_17 ⟨Nat.le_of_ble_eq_true rfl, Nat.le_of_ble_eq_true rfl⟩) hP hD hS hA [0, 1, 2] [] rfl rfl (by decide) (by decide) (fun r_15 => pe2 (fun v15_0 v15_1 H locs hw_15 hP hD hS => ?_))
    clear k_15
    have hP : va_P D kl [(h, .inr (7, [.ref sl, .int na, .ref zs, .ref ln, .ref ir, .ref tk, .int su, .int le, .ref tb, .int fu, .int ap, .int pp, .ref tr, .int v15_0, .ref fz, .int nm])), (sl, .inl (cI, 1653, .inl sf)), (tr, .inl (cI, 16, .inl v15_1))] H := hP
    have hD : va_D A [(h, .inr (7, [.ref sl, .int na, .ref zs, .ref ln, .ref ir, .ref tk, .int su, .int le, .ref tb, .int fu, .int ap, .int pp, .ref tr, .int v15_0, .ref fz, .int nm])), (sl, .inl (cI, 1653, .inl sf)), (tr, .inl (cI, 16, .inl v15_1))] := hD
    have c15_0 := hw_15
    have c15_0 : 0 ≤ v15_0.toInt ∧ v15_0.toInt ≤ 16 := c15_0
    exact wr_i (v := r_15) hx hb hr hlocks hS (v15_0, v15_1) (by exact show 0 ≤ (v15_0 : Int32).toInt ∧ (v15_0 : Int32).toInt ≤ 16 from by omega) (hP.sub [0, 1, 2] rfl) (hD.sub [0, 1, 2] (by decide) rfl) dX8_markOld_20
set_option maxHeartbeats 4000000 in
set_option maxRecDepth 100000 in
theorem g_X8_size11 (l : Launch) (D : va_G) (cI cB cQ : ClassId) (sz : Nat) (h : Nat) (sl : Nat) (zs : Nat) (ln : Nat) (ir : Nat) (tk : Nat) (tb : Nat) (tr : Nat) (fz : Nat) (na : Int32) (su : Int32) (le : Int32) (fu : Int32) (ap : Int32) (pp : Int32) (tc : Int32) (nm : Int32) (v : Int32) (sf : Nat → Int32) (trf : Nat → Int32) (v0 : Int) (hsi : SI sf v0) (h_na : 0 ≤ na.toInt ∧ na.toInt ≤ 24) (h_le : 0 ≤ le.toInt ∧ le.toInt ≤ 120) (h_ap : 0 ≤ ap.toInt ∧ ap.toInt ≤ 120) (h_tc : 0 ≤ tc.toInt ∧ tc.toInt ≤ 16) (h_v : 0 ≤ v.toInt ∧ v.toInt ≤ 2) : mi l yX8_size11 wsX8_size11 ({ frames := 4, cells := 0, slots := 0, locals := 87 }) D cI cB cQ [.ref h, .int v] sz [(h, .inr (7, [.ref sl, .int na, .ref zs, .ref ln, .ref ir, .ref tk, .int su, .int le, .ref tb, .int fu, .int ap, .int pp, .ref tr, .int tc, .ref fz, .int nm])), (sl, .inl (cI, 1653, .inl sf)), (tr, .inl (cI, 16, .inl trf))] (fun (r : Int32) (u : Int32 × (Nat → Int32)) => (0 ≤ u.1.toInt ∧ u.1.toInt ≤ 16)) (fun u => [(h, .inr (7, [.ref sl, .int na, .ref zs, .ref ln, .ref ir, .ref tk, .int su, .int le, .ref tb, .int fu, .int ap, .int pp, .ref tr, .int u.1, .ref fz, .int nm])), (sl, .inl (cI, 1653, .inl sf)), (tr, .inl (cI, 16, .inl u.2))]) 0 0 := by
  refine wm_i (cc := cX8_size11) (maxL := 3) (ret := (some .int)) (by decide) rfl (Nat.le_of_ble_eq_true rfl) ?_
  intro p e s m below meth c A ls hx hb hr hml hown hts hlocks hin hP hK hD hN hA hl hS
  have hown : s.vm.findClass RX8 = some m.cls := hown
  have hl : lv_has ls 3 [(0, .ref h), (1, .int v)] := hl
  change W p l e ({ frames := 4, cells := 0, slots := 0, locals := 87 }) s m ([.ref h, .int v] : List Value).toArray below meth c s.heap [] 0 0 (MQ below (va_Qi (fun (r : Int32) (u : Int32 × (Nat → Int32)) => (0 ≤ u.1.toInt ∧ u.1.toInt ≤ 16)) (fun u t => wb D A ((fun u => [(h, .inr (7, [.ref sl, .int na, .ref zs, .ref ln, .ref ir, .ref tk, .int su, .int le, .ref tb, .int fu, .int ap, .int pp, .ref tr, .int u.1, .ref fz, .int nm])), (sl, .inl (cI, 1653, .inl sf)), (tr, .inl (cI, 16, .inl u.2))]) u) t) A) ([.ref h, .int v] : List Value).toArray s 0 0 A) (F0 m 0 ls [])
  refine lv_aload_n hx hb dX8_size11_0 rfl (lv_at hl 0 rfl) ?_
  refine lv_bipush (v := 11) hx hb dX8_size11_1 (by decide) ?_
  have k_1 := (g_X8_begins l D cI cB cQ s.heap.size h sl zs ln ir tk tb tr fz na su le fu ap pp tc nm 11 trf (by omega) (by omega) (by omega) (by omega))
  refine wc_v (WC := [(h, .inr (7, [.ref sl, .int na, .ref zs, .ref ln, .ref ir, .ref tk, .int su, .int le, .ref tb, .int fu, .int ap, .int pp, .ref tr, .int tc, .ref fz, .int nm])), (tr, .inl (cI, 16, .inl trf))]) (WR := [(sl, .inl (cI, 1653, .inl sf))]) (va_runV (As := [.int 11]) (rest := []) ⟨hx, hb, hml, hown, hts⟩ k_1 (cwV 1 hts gX8_size11_X8_begins rfl rfl rfl (by decide +kernel) ⟨Nat.le_of_ble_eq_true rfl, Nat.le_of_ble_eq_true rfl⟩) (wp_V hP hK hD hN [0, 2] (by decide) rfl (ci := 7) rfl rfl) rfl rfl hl.1 rfl (lv_room (Nat.le_of_ble_eq_true rfl)) dX8_size11_3 ⟨Nat.le_of_ble_eq_true rfl, Nat.le_of_ble_eq_true rfl⟩) hP hD hS hA [0, 2] [1] rfl rfl (by decide) (by decide) (pe2 (fun v1_0 v1_1 H locs hw_1 hP hD hS => ?_))
  clear k_1
  have hP : va_P D kl [(sl, .inl (cI, 1653, .inl sf)), (h, .inr (7, [.ref sl, .int na, .ref zs, .ref ln, .ref ir, .ref tk, .int su, .int le, .ref tb, .int fu, .int ap, .int pp, .ref tr, .int v1_0, .ref fz, .int nm])), (tr, .inl (cI, 16, .inl v1_1))] H := hP
  have hD : va_D A [(sl, .inl (cI, 1653, .inl sf)), (h, .inr (7, [.ref sl, .int na, .ref zs, .ref ln, .ref ir, .ref tk, .int su, .int le, .ref tb, .int fu, .int ap, .int pp, .ref tr, .int v1_0, .ref fz, .int nm])), (tr, .inl (cI, 16, .inl v1_1))] := hD
  have c1_0 := hw_1
  have c1_0 : 0 ≤ v1_0.toInt ∧ v1_0.toInt ≤ 16 := c1_0
  refine lv_aload_n hx hb dX8_size11_6 rfl (lv_at hl 0 rfl) ?_
  refine lv_iload_n hx hb dX8_size11_7 rfl (lv_at hl 1 rfl) ?_
  have k_2 := (g_X8_size10 l D cI cB cQ H.size h sl zs ln ir tk tb tr fz na su le fu ap pp v1_0 nm v sf v1_1 v0 hsi (by omega) (by omega) (by omega) (by omega) (by omega))
  refine wc_i (WC := [(h, .inr (7, [.ref sl, .int na, .ref zs, .ref ln, .ref ir, .ref tk, .int su, .int le, .ref tb, .int fu, .int ap, .int pp, .ref tr, .int v1_0, .ref fz, .int nm])), (sl, .inl (cI, 1653, .inl sf)), (tr, .inl (cI, 16, .inl v1_1))]) (WR := []) (va_runV (As := [.int v]) (rest := []) ⟨hx, hb, hml, hown, hts⟩ k_2 (cwV 1 hts gX8_size11_X8_size10 rfl rfl rfl (by decide +kernel) ⟨Nat.le_of_ble_eq_true rfl, Nat.le_of_ble_eq_true rfl⟩) (wp_V hP hK hD hN [1, 0, 2] (by decide) rfl (ci := 7) rfl rfl) rfl rfl hl.1 rfl (lv_room (Nat.le_of_ble_eq_true rfl)) dX8_size11_8 ⟨Nat.le_of_ble_eq_true rfl, Nat.le_of_ble_eq_true rfl⟩) hP hD hS hA [1, 0, 2] [] rfl rfl (by decide) (by decide) (fun r_2 => pe2 (fun v2_0 v2_1 H locs hw_2 hP hD hS => ?_))
  clear k_2
  have hP : va_P D kl [(h, .inr (7, [.ref sl, .int na, .ref zs, .ref ln, .ref ir, .ref tk, .int su, .int le, .ref tb, .int fu, .int ap, .int pp, .ref tr, .int v2_0, .ref fz, .int nm])), (sl, .inl (cI, 1653, .inl sf)), (tr, .inl (cI, 16, .inl v2_1))] H := hP
  have hD : va_D A [(h, .inr (7, [.ref sl, .int na, .ref zs, .ref ln, .ref ir, .ref tk, .int su, .int le, .ref tb, .int fu, .int ap, .int pp, .ref tr, .int v2_0, .ref fz, .int nm])), (sl, .inl (cI, 1653, .inl sf)), (tr, .inl (cI, 16, .inl v2_1))] := hD
  have c2_0 := hw_2
  have c2_0 : 0 ≤ v2_0.toInt ∧ v2_0.toInt ≤ 16 := c2_0
  refine lv_istore_n (lv' := [(2, .int r_2), (0, .ref h), (1, .int v)]) hx hb dX8_size11_11 rfl hl (by decide) rfl (fun ls hl => ?_)
  refine lv_iload_n hx hb dX8_size11_12 rfl (lv_at hl 0 rfl) ?_
  refine lv_aload_n hx hb dX8_size11_13 rfl (lv_at hl 1 rfl) ?_
  refine lv_iload_n hx hb dX8_size11_14 rfl (lv_at hl 2 rfl) ?_
  have k_3 := (g_X8_markOld l D cI cB cQ H.size h sl zs ln ir tk tb tr fz na su le fu ap pp v2_0 nm v sf v2_1 v0 hsi (by omega) (by omega) (by omega) (by omega) (by omega))
  refine wc_i (WC := [(h, .inr (7, [.ref sl, .int na, .ref zs, .ref ln, .ref ir, .ref tk, .int su, .int le, .ref tb, .int fu, .int ap, .int pp, .ref tr, .int v2_0, .ref fz, .int nm])), (sl, .inl (cI, 1653, .inl sf)), (tr, .inl (cI, 16, .inl v2_1))]) (WR := []) (va_runV (As := [.int v]) (rest := [.int r_2]) ⟨hx, hb, hml, hown, hts⟩ k_3 (cwV 1 hts gX8_size11_X8_markOld rfl rfl rfl (by decide +kernel) ⟨Nat.le_of_ble_eq_true rfl, Nat.le_of_ble_eq_true rfl⟩) (wp_V hP hK hD hN [0, 1, 2] (by decide) rfl (ci := 7) rfl rfl) rfl rfl hl.1 rfl (lv_room (Nat.le_of_ble_eq_true rfl)) dX8_size11_15 ⟨Nat.le_of_ble_eq_true rfl, Nat.le_of_ble_eq_true rfl⟩) hP hD hS hA [0, 1, 2] [] rfl rfl (by decide) (by decide) (fun r_3 => pe2 (fun v3_0 v3_1 H locs hw_3 hP hD hS => ?_))
  clear k_3
  have hP : va_P D kl [(h, .inr (7, [.ref sl, .int na, .ref zs, .ref ln, .ref ir, .ref tk, .int su, .int le, .ref tb, .int fu, .int ap, .int pp, .ref tr, .int v3_0, .ref fz, .int nm])), (sl, .inl (cI, 1653, .inl sf)), (tr, .inl (cI, 16, .inl v3_1))] H := hP
  have hD : va_D A [(h, .inr (7, [.ref sl, .int na, .ref zs, .ref ln, .ref ir, .ref tk, .int su, .int le, .ref tb, .int fu, .int ap, .int pp, .ref tr, .int v3_0, .ref fz, .int nm])), (sl, .inl (cI, 1653, .inl sf)), (tr, .inl (cI, 16, .inl v3_1))] := hD
  have c3_0 := hw_3
  have c3_0 : 0 ≤ v3_0.toInt ∧ v3_0.toInt ≤ 16 := c3_0
  refine lv_iadd hx hb dX8_size11_18 ?_
  refine lv_topi (fun x_4 ex_4 => ?_)
  clear ex_4
  exact wr_i (v := x_4) hx hb hr hlocks hS (v3_0, v3_1) (by exact show 0 ≤ (v3_0 : Int32).toInt ∧ (v3_0 : Int32).toInt ≤ 16 from by omega) (hP.sub [0, 1, 2] rfl) (hD.sub [0, 1, 2] (by decide) rfl) dX8_size11_19
set_option maxHeartbeats 4000000 in
set_option maxRecDepth 100000 in
theorem g_X8_size13 (l : Launch) (D : va_G) (cI cB cQ : ClassId) (sz : Nat) (h : Nat) (sl : Nat) (zs : Nat) (ln : Nat) (ir : Nat) (tk : Nat) (tb : Nat) (tr : Nat) (fz : Nat) (na : Int32) (su : Int32) (le : Int32) (fu : Int32) (ap : Int32) (pp : Int32) (tc : Int32) (nm : Int32) (v : Int32) (sf : Nat → Int32) (trf : Nat → Int32) (v0 : Int) (hsi : SI sf v0) (h_na : 0 ≤ na.toInt ∧ na.toInt ≤ 24) (h_le : 0 ≤ le.toInt ∧ le.toInt ≤ 120) (h_ap : 0 ≤ ap.toInt ∧ ap.toInt ≤ 120) (h_tc : 0 ≤ tc.toInt ∧ tc.toInt ≤ 16) (h_v : 0 ≤ v.toInt ∧ v.toInt ≤ 2) : mi l yX8_size13 wsX8_size13 ({ frames := 2, cells := 0, slots := 0, locals := 42 }) D cI cB cQ [.ref h, .int v] sz [(h, .inr (7, [.ref sl, .int na, .ref zs, .ref ln, .ref ir, .ref tk, .int su, .int le, .ref tb, .int fu, .int ap, .int pp, .ref tr, .int tc, .ref fz, .int nm])), (sl, .inl (cI, 1653, .inl sf)), (tr, .inl (cI, 16, .inl trf))] (fun (r : Int32) (u : Int32 × (Nat → Int32)) => (0 ≤ u.1.toInt ∧ u.1.toInt ≤ 16)) (fun u => [(h, .inr (7, [.ref sl, .int na, .ref zs, .ref ln, .ref ir, .ref tk, .int su, .int le, .ref tb, .int fu, .int ap, .int pp, .ref tr, .int u.1, .ref fz, .int nm])), (sl, .inl (cI, 1653, .inl sf)), (tr, .inl (cI, 16, .inl u.2))]) 0 0 := by
  refine wm_i (cc := cX8_size13) (maxL := 2) (ret := (some .int)) (by decide) rfl (Nat.le_of_ble_eq_true rfl) ?_
  intro p e s m below meth c A ls hx hb hr hml hown hts hlocks hin hP hK hD hN hA hl hS
  have hown : s.vm.findClass RX8 = some m.cls := hown
  have hl : lv_has ls 2 [(0, .ref h), (1, .int v)] := hl
  change W p l e ({ frames := 2, cells := 0, slots := 0, locals := 42 }) s m ([.ref h, .int v] : List Value).toArray below meth c s.heap [] 0 0 (MQ below (va_Qi (fun (r : Int32) (u : Int32 × (Nat → Int32)) => (0 ≤ u.1.toInt ∧ u.1.toInt ≤ 16)) (fun u t => wb D A ((fun u => [(h, .inr (7, [.ref sl, .int na, .ref zs, .ref ln, .ref ir, .ref tk, .int su, .int le, .ref tb, .int fu, .int ap, .int pp, .ref tr, .int u.1, .ref fz, .int nm])), (sl, .inl (cI, 1653, .inl sf)), (tr, .inl (cI, 16, .inl u.2))]) u) t) A) ([.ref h, .int v] : List Value).toArray s 0 0 A) (F0 m 0 ls [])
  refine lv_aload_n hx hb dX8_size13_0 rfl (lv_at hl 0 rfl) ?_
  refine lv_bipush (v := 13) hx hb dX8_size13_1 (by decide) ?_
  have k_1 := (g_X8_begins l D cI cB cQ s.heap.size h sl zs ln ir tk tb tr fz na su le fu ap pp tc nm 13 trf (by omega) (by omega) (by omega) (by omega))
  refine wc_v (WC := [(h, .inr (7, [.ref sl, .int na, .ref zs, .ref ln, .ref ir, .ref tk, .int su, .int le, .ref tb, .int fu, .int ap, .int pp, .ref tr, .int tc, .ref fz, .int nm])), (tr, .inl (cI, 16, .inl trf))]) (WR := [(sl, .inl (cI, 1653, .inl sf))]) (va_runV (As := [.int 13]) (rest := []) ⟨hx, hb, hml, hown, hts⟩ k_1 (cwV 1 hts gX8_size13_X8_begins rfl rfl rfl (by decide +kernel) ⟨Nat.le_of_ble_eq_true rfl, Nat.le_of_ble_eq_true rfl⟩) (wp_V hP hK hD hN [0, 2] (by decide) rfl (ci := 7) rfl rfl) rfl rfl hl.1 rfl (lv_room (Nat.le_of_ble_eq_true rfl)) dX8_size13_3 ⟨Nat.le_of_ble_eq_true rfl, Nat.le_of_ble_eq_true rfl⟩) hP hD hS hA [0, 2] [1] rfl rfl (by decide) (by decide) (pe2 (fun v1_0 v1_1 H locs hw_1 hP hD hS => ?_))
  clear k_1
  have hP : va_P D kl [(sl, .inl (cI, 1653, .inl sf)), (h, .inr (7, [.ref sl, .int na, .ref zs, .ref ln, .ref ir, .ref tk, .int su, .int le, .ref tb, .int fu, .int ap, .int pp, .ref tr, .int v1_0, .ref fz, .int nm])), (tr, .inl (cI, 16, .inl v1_1))] H := hP
  have hD : va_D A [(sl, .inl (cI, 1653, .inl sf)), (h, .inr (7, [.ref sl, .int na, .ref zs, .ref ln, .ref ir, .ref tk, .int su, .int le, .ref tb, .int fu, .int ap, .int pp, .ref tr, .int v1_0, .ref fz, .int nm])), (tr, .inl (cI, 16, .inl v1_1))] := hD
  have c1_0 := hw_1
  have c1_0 : 0 ≤ v1_0.toInt ∧ v1_0.toInt ≤ 16 := c1_0
  refine lv_aload_n hx hb dX8_size13_6 rfl (lv_at hl 0 rfl) ?_
  refine lv_iload_n hx hb dX8_size13_7 rfl (lv_at hl 1 rfl) ?_
  have k_2 := (g_X8_size10 l D cI cB cQ H.size h sl zs ln ir tk tb tr fz na su le fu ap pp v1_0 nm v sf v1_1 v0 hsi (by omega) (by omega) (by omega) (by omega) (by omega))
  refine wc_i (WC := [(h, .inr (7, [.ref sl, .int na, .ref zs, .ref ln, .ref ir, .ref tk, .int su, .int le, .ref tb, .int fu, .int ap, .int pp, .ref tr, .int v1_0, .ref fz, .int nm])), (sl, .inl (cI, 1653, .inl sf)), (tr, .inl (cI, 16, .inl v1_1))]) (WR := []) (va_runV (As := [.int v]) (rest := []) ⟨hx, hb, hml, hown, hts⟩ k_2 (cwV 1 hts gX8_size13_X8_size10 rfl rfl rfl (by decide +kernel) ⟨Nat.le_of_ble_eq_true rfl, Nat.le_of_ble_eq_true rfl⟩) (wp_V hP hK hD hN [1, 0, 2] (by decide) rfl (ci := 7) rfl rfl) rfl rfl hl.1 rfl (lv_room (Nat.le_of_ble_eq_true rfl)) dX8_size13_8 ⟨Nat.le_of_ble_eq_true rfl, Nat.le_of_ble_eq_true rfl⟩) hP hD hS hA [1, 0, 2] [] rfl rfl (by decide) (by decide) (fun r_2 => pe2 (fun v2_0 v2_1 H locs hw_2 hP hD hS => ?_))
  clear k_2
  have hP : va_P D kl [(h, .inr (7, [.ref sl, .int na, .ref zs, .ref ln, .ref ir, .ref tk, .int su, .int le, .ref tb, .int fu, .int ap, .int pp, .ref tr, .int v2_0, .ref fz, .int nm])), (sl, .inl (cI, 1653, .inl sf)), (tr, .inl (cI, 16, .inl v2_1))] H := hP
  have hD : va_D A [(h, .inr (7, [.ref sl, .int na, .ref zs, .ref ln, .ref ir, .ref tk, .int su, .int le, .ref tb, .int fu, .int ap, .int pp, .ref tr, .int v2_0, .ref fz, .int nm])), (sl, .inl (cI, 1653, .inl sf)), (tr, .inl (cI, 16, .inl v2_1))] := hD
  have c2_0 := hw_2
  have c2_0 : 0 ≤ v2_0.toInt ∧ v2_0.toInt ≤ 16 := c2_0
  refine lv_bipush (v := 100) hx hb dX8_size13_11 (by decide) ?_
  refine lv_isub hx hb dX8_size13_13 ?_
  refine lv_topi (fun x_3 ex_3 => ?_)
  clear ex_3
  exact wr_i (v := x_3) hx hb hr hlocks hS (v2_0, v2_1) (by exact show 0 ≤ (v2_0 : Int32).toInt ∧ (v2_0 : Int32).toInt ≤ 16 from by omega) (hP.sub [0, 1, 2] rfl) (hD.sub [0, 1, 2] (by decide) rfl) dX8_size13_14
set_option maxHeartbeats 4000000 in
set_option maxRecDepth 100000 in
theorem g_X8_sizeOf (l : Launch) (D : va_G) (cI cB cQ : ClassId) (sz : Nat) (h : Nat) (sl : Nat) (zs : Nat) (ln : Nat) (ir : Nat) (tk : Nat) (tb : Nat) (tr : Nat) (fz : Nat) (na : Int32) (su : Int32) (le : Int32) (fu : Int32) (ap : Int32) (pp : Int32) (tc : Int32) (nm : Int32) (v : Int32) (sf : Nat → Int32) (trf : Nat → Int32) (v0 : Int) (hsi : SI sf v0) (h_na : 0 ≤ na.toInt ∧ na.toInt ≤ 24) (h_le : 0 ≤ le.toInt ∧ le.toInt ≤ 120) (h_ap : 0 ≤ ap.toInt ∧ ap.toInt ≤ 120) (h_tc : 0 ≤ tc.toInt ∧ tc.toInt ≤ 16) (h_v : 0 ≤ v.toInt ∧ v.toInt ≤ 2) : mi l yX8_sizeOf wsX8_sizeOf ({ frames := 5, cells := 0, slots := 0, locals := 109 }) D cI cB cQ [.ref h, .int v] sz [(h, .inr (7, [.ref sl, .int na, .ref zs, .ref ln, .ref ir, .ref tk, .int su, .int le, .ref tb, .int fu, .int ap, .int pp, .ref tr, .int tc, .ref fz, .int nm])), (sl, .inl (cI, 1653, .inl sf)), (tr, .inl (cI, 16, .inl trf))] (fun (r : Int32) (u : Int32 × (Nat → Int32)) => (0 ≤ u.1.toInt ∧ u.1.toInt ≤ 16)) (fun u => [(h, .inr (7, [.ref sl, .int na, .ref zs, .ref ln, .ref ir, .ref tk, .int su, .int le, .ref tb, .int fu, .int ap, .int pp, .ref tr, .int u.1, .ref fz, .int nm])), (sl, .inl (cI, 1653, .inl sf)), (tr, .inl (cI, 16, .inl u.2))]) 0 0 := by
  refine wm_i (cc := cX8_sizeOf) (maxL := 3) (ret := (some .int)) (by decide) rfl (Nat.le_of_ble_eq_true rfl) ?_
  intro p e s m below meth c A ls hx hb hr hml hown hts hlocks hin hP hK hD hN hA hl hS
  have hown : s.vm.findClass RX8 = some m.cls := hown
  have hl : lv_has ls 3 [(0, .ref h), (1, .int v)] := hl
  change W p l e ({ frames := 5, cells := 0, slots := 0, locals := 109 }) s m ([.ref h, .int v] : List Value).toArray below meth c s.heap [] 0 0 (MQ below (va_Qi (fun (r : Int32) (u : Int32 × (Nat → Int32)) => (0 ≤ u.1.toInt ∧ u.1.toInt ≤ 16)) (fun u t => wb D A ((fun u => [(h, .inr (7, [.ref sl, .int na, .ref zs, .ref ln, .ref ir, .ref tk, .int su, .int le, .ref tb, .int fu, .int ap, .int pp, .ref tr, .int u.1, .ref fz, .int nm])), (sl, .inl (cI, 1653, .inl sf)), (tr, .inl (cI, 16, .inl u.2))]) u) t) A) ([.ref h, .int v] : List Value).toArray s 0 0 A) (F0 m 0 ls [])
  refine lv_aload_n hx hb dX8_sizeOf_0 rfl (lv_at hl 0 rfl) ?_
  refine va_get (D := D) (ci := 7) (v := .ref sl) (C := RX8) (T := TX8) (N := 16) hx hb hts (fun _ h => List.mem_cons_of_mem _ (List.mem_append_right _ h)) hown hK hP 0 rfl rfl 0 (by decide) (hts (.fieldLink RX8 7 "WinterWalkModel" "slot" "[I") (List.mem_of_getElem? (i := 1) rfl)) (fun _ h9 => h9) rfl dX8_sizeOf_1 ?_
  refine lv_bipush (v := 20) hx hb dX8_sizeOf_4 (by decide) ?_
  refine lv_iload_n hx hb dX8_sizeOf_6 rfl (lv_at hl 1 rfl) ?_
  refine lv_iadd hx hb dX8_sizeOf_7 ?_
  refine lv_topi (fun x_1 ex_1 => ?_)
  have e_1 : x_1.toInt = 20 + v.toInt := by rw [ex_1]; exact zi_add (by decide) (rfl) (by omega) (by omega)
  clear ex_1
  refine va_iald hx hb hK hP 1 0 rfl rfl (zi_in (by omega) (by omega)) dX8_sizeOf_8 ?_
  refine lv_topi (fun x_2 ex_2 => ?_)
  clear ex_2
  refine lv_istore_n (lv' := [(2, .int x_2), (0, .ref h), (1, .int v)]) hx hb dX8_sizeOf_9 rfl hl (by decide) rfl (fun ls hl => ?_)
  refine lv_iload_n hx hb dX8_sizeOf_10 rfl (lv_at hl 0 rfl) ?_
  refine lv_iconst (v := 1) hx hb dX8_sizeOf_11 (by decide) ?_
  refine lv_icmp_eq (tgt := 20) hx hb dX8_sizeOf_12 (by decide) (fun c_3 => ?_) (fun c_3 => ?_)
  · have f_3 : x_2.toInt = 1 := zi_eq c_3
    refine lv_aload_n hx hb dX8_sizeOf_20 rfl (lv_at hl 1 rfl) ?_
    refine lv_iload_n hx hb dX8_sizeOf_21 rfl (lv_at hl 2 rfl) ?_
    have k_4 := (g_X8_size11 l D cI cB cQ s.heap.size h sl zs ln ir tk tb tr fz na su le fu ap pp tc nm v sf trf v0 hsi (by omega) (by omega) (by omega) (by omega) (by omega))
    refine wc_i (WC := [(h, .inr (7, [.ref sl, .int na, .ref zs, .ref ln, .ref ir, .ref tk, .int su, .int le, .ref tb, .int fu, .int ap, .int pp, .ref tr, .int tc, .ref fz, .int nm])), (sl, .inl (cI, 1653, .inl sf)), (tr, .inl (cI, 16, .inl trf))]) (WR := []) (va_runV (As := [.int v]) (rest := []) ⟨hx, hb, hml, hown, hts⟩ k_4 (cwV 1 hts gX8_sizeOf_X8_size11 rfl rfl rfl (by decide +kernel) ⟨Nat.le_of_ble_eq_true rfl, Nat.le_of_ble_eq_true rfl⟩) (wp_V hP hK hD hN [0, 1, 2] (by decide) rfl (ci := 7) rfl rfl) rfl rfl hl.1 rfl (lv_room (Nat.le_of_ble_eq_true rfl)) dX8_sizeOf_22 ⟨Nat.le_of_ble_eq_true rfl, Nat.le_of_ble_eq_true rfl⟩) hP hD hS hA [0, 1, 2] [] rfl rfl (by decide) (by decide) (fun r_4 => pe2 (fun v4_0 v4_1 H locs hw_4 hP hD hS => ?_))
    clear k_4
    have hP : va_P D kl [(h, .inr (7, [.ref sl, .int na, .ref zs, .ref ln, .ref ir, .ref tk, .int su, .int le, .ref tb, .int fu, .int ap, .int pp, .ref tr, .int v4_0, .ref fz, .int nm])), (sl, .inl (cI, 1653, .inl sf)), (tr, .inl (cI, 16, .inl v4_1))] H := hP
    have hD : va_D A [(h, .inr (7, [.ref sl, .int na, .ref zs, .ref ln, .ref ir, .ref tk, .int su, .int le, .ref tb, .int fu, .int ap, .int pp, .ref tr, .int v4_0, .ref fz, .int nm])), (sl, .inl (cI, 1653, .inl sf)), (tr, .inl (cI, 16, .inl v4_1))] := hD
    have c4_0 := hw_4
    have c4_0 : 0 ≤ v4_0.toInt ∧ v4_0.toInt ≤ 16 := c4_0
    exact wr_i (v := r_4) hx hb hr hlocks hS (v4_0, v4_1) (by exact show 0 ≤ (v4_0 : Int32).toInt ∧ (v4_0 : Int32).toInt ≤ 16 from by omega) (hP.sub [0, 1, 2] rfl) (hD.sub [0, 1, 2] (by decide) rfl) dX8_sizeOf_25
  · have f_3 : ¬ x_2.toInt = 1 := zi_ne c_3
    refine lv_iload_n hx hb dX8_sizeOf_15 rfl (lv_at hl 0 rfl) ?_
    refine lv_iconst (v := 3) hx hb dX8_sizeOf_16 (by decide) ?_
    refine lv_icmp_ne (tgt := 26) hx hb dX8_sizeOf_17 (by decide) (fun c_5 => ?_) (fun c_5 => ?_)
    · have f_5 : ¬ x_2.toInt = 3 := zi_ne c_5
      refine lv_iload_n hx hb dX8_sizeOf_26 rfl (lv_at hl 0 rfl) ?_
      refine lv_iconst (v := 4) hx hb dX8_sizeOf_27 (by decide) ?_
      refine lv_icmp_ne (tgt := 37) hx hb dX8_sizeOf_28 (by decide) (fun c_6 => ?_) (fun c_6 => ?_)
      · have f_6 : ¬ x_2.toInt = 4 := zi_ne c_6
        refine lv_aload_n hx hb dX8_sizeOf_37 rfl (lv_at hl 1 rfl) ?_
        refine lv_iload_n hx hb dX8_sizeOf_38 rfl (lv_at hl 0 rfl) ?_
        refine lv_iconst (v := 2) hx hb dX8_sizeOf_39 (by decide) ?_
        refine lv_icmp_ne (tgt := 48) hx hb dX8_sizeOf_40 (by decide) (fun c_7 => ?_) (fun c_7 => ?_)
        · have f_7 : ¬ x_2.toInt = 2 := zi_ne c_7
          refine lv_bipush (v := 14) hx hb dX8_sizeOf_48 (by decide) ?_
          have k_8 := (g_X8_begins l D cI cB cQ s.heap.size h sl zs ln ir tk tb tr fz na su le fu ap pp tc nm 14 trf (by omega) (by omega) (by omega) (by omega))
          refine wc_v (WC := [(h, .inr (7, [.ref sl, .int na, .ref zs, .ref ln, .ref ir, .ref tk, .int su, .int le, .ref tb, .int fu, .int ap, .int pp, .ref tr, .int tc, .ref fz, .int nm])), (tr, .inl (cI, 16, .inl trf))]) (WR := [(sl, .inl (cI, 1653, .inl sf))]) (va_runV (As := [.int 14]) (rest := []) ⟨hx, hb, hml, hown, hts⟩ k_8 (cwV 1 hts gX8_sizeOf_X8_begins rfl rfl rfl (by decide +kernel) ⟨Nat.le_of_ble_eq_true rfl, Nat.le_of_ble_eq_true rfl⟩) (wp_V hP hK hD hN [0, 2] (by decide) rfl (ci := 7) rfl rfl) rfl rfl hl.1 rfl (lv_room (Nat.le_of_ble_eq_true rfl)) dX8_sizeOf_50 ⟨Nat.le_of_ble_eq_true rfl, Nat.le_of_ble_eq_true rfl⟩) hP hD hS hA [0, 2] [1] rfl rfl (by decide) (by decide) (pe2 (fun v8_0 v8_1 H locs hw_8 hP hD hS => ?_))
          clear k_8
          have hP : va_P D kl [(sl, .inl (cI, 1653, .inl sf)), (h, .inr (7, [.ref sl, .int na, .ref zs, .ref ln, .ref ir, .ref tk, .int su, .int le, .ref tb, .int fu, .int ap, .int pp, .ref tr, .int v8_0, .ref fz, .int nm])), (tr, .inl (cI, 16, .inl v8_1))] H := hP
          have hD : va_D A [(sl, .inl (cI, 1653, .inl sf)), (h, .inr (7, [.ref sl, .int na, .ref zs, .ref ln, .ref ir, .ref tk, .int su, .int le, .ref tb, .int fu, .int ap, .int pp, .ref tr, .int v8_0, .ref fz, .int nm])), (tr, .inl (cI, 16, .inl v8_1))] := hD
          have c8_0 := hw_8
          have c8_0 : 0 ≤ v8_0.toInt ∧ v8_0.toInt ≤ 16 := c8_0
          refine lv_iload_n hx hb dX8_sizeOf_53 rfl (lv_at hl 0 rfl) ?_
          refine lv_iconst (v := 2) hx hb dX8_sizeOf_54 (by decide) ?_
          refine lv_icmp_ne (tgt := 67) hx hb dX8_sizeOf_55 (by decide) (fun c_9 => ?_) (fun c_9 => ?_)
          · have f_9 : ¬ x_2.toInt = 2 := zi_ne c_9
            refine lv_iconst (v := 2) hx hb dX8_sizeOf_67 (by decide) ?_
            refine lv_aload_n hx hb dX8_sizeOf_68 rfl (lv_at hl 1 rfl) ?_
            refine lv_iload_n hx hb dX8_sizeOf_69 rfl (lv_at hl 2 rfl) ?_
            have k_10 := (g_X8_size13 l D cI cB cQ H.size h sl zs ln ir tk tb tr fz na su le fu ap pp v8_0 nm v sf v8_1 v0 hsi (by omega) (by omega) (by omega) (by omega) (by omega))
            refine wc_i (WC := [(h, .inr (7, [.ref sl, .int na, .ref zs, .ref ln, .ref ir, .ref tk, .int su, .int le, .ref tb, .int fu, .int ap, .int pp, .ref tr, .int v8_0, .ref fz, .int nm])), (sl, .inl (cI, 1653, .inl sf)), (tr, .inl (cI, 16, .inl v8_1))]) (WR := []) (va_runV (As := [.int v]) (rest := [.int 2]) ⟨hx, hb, hml, hown, hts⟩ k_10 (cwV 1 hts gX8_sizeOf_X8_size13 rfl rfl rfl (by decide +kernel) ⟨Nat.le_of_ble_eq_true rfl, Nat.le_of_ble_eq_true rfl⟩) (wp_V hP hK hD hN [1, 0, 2] (by decide) rfl (ci := 7) rfl rfl) rfl rfl hl.1 rfl (lv_room (Nat.le_of_ble_eq_true rfl)) dX8_sizeOf_70 ⟨Nat.le_of_ble_eq_true rfl, Nat.le_of_ble_eq_true rfl⟩) hP hD hS hA [1, 0, 2] [] rfl rfl (by decide) (by decide) (fun r_10 => pe2 (fun v10_0 v10_1 H locs hw_10 hP hD hS => ?_))
            clear k_10
            have hP : va_P D kl [(h, .inr (7, [.ref sl, .int na, .ref zs, .ref ln, .ref ir, .ref tk, .int su, .int le, .ref tb, .int fu, .int ap, .int pp, .ref tr, .int v10_0, .ref fz, .int nm])), (sl, .inl (cI, 1653, .inl sf)), (tr, .inl (cI, 16, .inl v10_1))] H := hP
            have hD : va_D A [(h, .inr (7, [.ref sl, .int na, .ref zs, .ref ln, .ref ir, .ref tk, .int su, .int le, .ref tb, .int fu, .int ap, .int pp, .ref tr, .int v10_0, .ref fz, .int nm])), (sl, .inl (cI, 1653, .inl sf)), (tr, .inl (cI, 16, .inl v10_1))] := hD
            have c10_0 := hw_10
            have c10_0 : 0 ≤ v10_0.toInt ∧ v10_0.toInt ≤ 16 := c10_0
            refine lv_imul hx hb dX8_sizeOf_73 ?_
            refine lv_topi (fun x_11 ex_11 => ?_)
            clear ex_11
            exact wr_i (v := x_11) hx hb hr hlocks hS (v10_0, v10_1) (by exact show 0 ≤ (v10_0 : Int32).toInt ∧ (v10_0 : Int32).toInt ≤ 16 from by omega) (hP.sub [0, 1, 2] rfl) (hD.sub [0, 1, 2] (by decide) rfl) dX8_sizeOf_74
          · have f_9 : x_2.toInt = 2 := zi_eq c_9
            refine lv_aload_n hx hb dX8_sizeOf_58 rfl (lv_at hl 1 rfl) ?_
            refine lv_iload_n hx hb dX8_sizeOf_59 rfl (lv_at hl 2 rfl) ?_
            have k_12 := (g_X8_size11 l D cI cB cQ H.size h sl zs ln ir tk tb tr fz na su le fu ap pp v8_0 nm v sf v8_1 v0 hsi (by omega) (by omega) (by omega) (by omega) (by omega))
            refine wc_i (WC := [(h, .inr (7, [.ref sl, .int na, .ref zs, .ref ln, .ref ir, .ref tk, .int su, .int le, .ref tb, .int fu, .int ap, .int pp, .ref tr, .int v8_0, .ref fz, .int nm])), (sl, .inl (cI, 1653, .inl sf)), (tr, .inl (cI, 16, .inl v8_1))]) (WR := []) (va_runV (As := [.int v]) (rest := []) ⟨hx, hb, hml, hown, hts⟩ k_12 (cwV 1 hts gX8_sizeOf_X8_size11 rfl rfl rfl (by decide +kernel) ⟨Nat.le_of_ble_eq_true rfl, Nat.le_of_ble_eq_true rfl⟩) (wp_V hP hK hD hN [1, 0, 2] (by decide) rfl (ci := 7) rfl rfl) rfl rfl hl.1 rfl (lv_room (Nat.le_of_ble_eq_true rfl)) dX8_sizeOf_60 ⟨Nat.le_of_ble_eq_true rfl, Nat.le_of_ble_eq_true rfl⟩) hP hD hS hA [1, 0, 2] [] rfl rfl (by decide) (by decide) (fun r_12 => pe2 (fun v12_0 v12_1 H locs hw_12 hP hD hS => ?_))
            clear k_12
            have hP : va_P D kl [(h, .inr (7, [.ref sl, .int na, .ref zs, .ref ln, .ref ir, .ref tk, .int su, .int le, .ref tb, .int fu, .int ap, .int pp, .ref tr, .int v12_0, .ref fz, .int nm])), (sl, .inl (cI, 1653, .inl sf)), (tr, .inl (cI, 16, .inl v12_1))] H := hP
            have hD : va_D A [(h, .inr (7, [.ref sl, .int na, .ref zs, .ref ln, .ref ir, .ref tk, .int su, .int le, .ref tb, .int fu, .int ap, .int pp, .ref tr, .int v12_0, .ref fz, .int nm])), (sl, .inl (cI, 1653, .inl sf)), (tr, .inl (cI, 16, .inl v12_1))] := hD
            have c12_0 := hw_12
            have c12_0 : 0 ≤ v12_0.toInt ∧ v12_0.toInt ≤ 16 := c12_0
            refine lv_ineg hx hb dX8_sizeOf_63 ?_
            refine lv_topi (fun x_13 ex_13 => ?_)
            clear ex_13
            refine lv_goto (tgt := 74) hx hb dX8_sizeOf_64 (by decide) ?_
            exact wr_i (v := x_13) hx hb hr hlocks hS (v12_0, v12_1) (by exact show 0 ≤ (v12_0 : Int32).toInt ∧ (v12_0 : Int32).toInt ≤ 16 from by omega) (hP.sub [0, 1, 2] rfl) (hD.sub [0, 1, 2] (by decide) rfl) dX8_sizeOf_74
        · have f_7 : x_2.toInt = 2 := zi_eq c_7
          refine lv_bipush (v := 12) hx hb dX8_sizeOf_43 (by decide) ?_
          refine lv_goto (tgt := 50) hx hb dX8_sizeOf_45 (by decide) ?_
          have k_14 := (g_X8_begins l D cI cB cQ s.heap.size h sl zs ln ir tk tb tr fz na su le fu ap pp tc nm 12 trf (by omega) (by omega) (by omega) (by omega))
          refine wc_v (WC := [(h, .inr (7, [.ref sl, .int na, .ref zs, .ref ln, .ref ir, .ref tk, .int su, .int le, .ref tb, .int fu, .int ap, .int pp, .ref tr, .int tc, .ref fz, .int nm])), (tr, .inl (cI, 16, .inl trf))]) (WR := [(sl, .inl (cI, 1653, .inl sf))]) (va_runV (As := [.int 12]) (rest := []) ⟨hx, hb, hml, hown, hts⟩ k_14 (cwV 1 hts gX8_sizeOf_X8_begins rfl rfl rfl (by decide +kernel) ⟨Nat.le_of_ble_eq_true rfl, Nat.le_of_ble_eq_true rfl⟩) (wp_V hP hK hD hN [0, 2] (by decide) rfl (ci := 7) rfl rfl) rfl rfl hl.1 rfl (lv_room (Nat.le_of_ble_eq_true rfl)) dX8_sizeOf_50 ⟨Nat.le_of_ble_eq_true rfl, Nat.le_of_ble_eq_true rfl⟩) hP hD hS hA [0, 2] [1] rfl rfl (by decide) (by decide) (pe2 (fun v14_0 v14_1 H locs hw_14 hP hD hS => ?_))
          clear k_14
          have hP : va_P D kl [(sl, .inl (cI, 1653, .inl sf)), (h, .inr (7, [.ref sl, .int na, .ref zs, .ref ln, .ref ir, .ref tk, .int su, .int le, .ref tb, .int fu, .int ap, .int pp, .ref tr, .int v14_0, .ref fz, .int nm])), (tr, .inl (cI, 16, .inl v14_1))] H := hP
          have hD : va_D A [(sl, .inl (cI, 1653, .inl sf)), (h, .inr (7, [.ref sl, .int na, .ref zs, .ref ln, .ref ir, .ref tk, .int su, .int le, .ref tb, .int fu, .int ap, .int pp, .ref tr, .int v14_0, .ref fz, .int nm])), (tr, .inl (cI, 16, .inl v14_1))] := hD
          have c14_0 := hw_14
          have c14_0 : 0 ≤ v14_0.toInt ∧ v14_0.toInt ≤ 16 := c14_0
          refine lv_iload_n hx hb dX8_sizeOf_53 rfl (lv_at hl 0 rfl) ?_
          refine lv_iconst (v := 2) hx hb dX8_sizeOf_54 (by decide) ?_
          refine lv_icmp_ne (tgt := 67) hx hb dX8_sizeOf_55 (by decide) (fun c_15 => ?_) (fun c_15 => ?_)
          · have f_15 : ¬ x_2.toInt = 2 := zi_ne c_15
            refine lv_iconst (v := 2) hx hb dX8_sizeOf_67 (by decide) ?_
            refine lv_aload_n hx hb dX8_sizeOf_68 rfl (lv_at hl 1 rfl) ?_
            refine lv_iload_n hx hb dX8_sizeOf_69 rfl (lv_at hl 2 rfl) ?_
            have k_16 := (g_X8_size13 l D cI cB cQ H.size h sl zs ln ir tk tb tr fz na su le fu ap pp v14_0 nm v sf v14_1 v0 hsi (by omega) (by omega) (by omega) (by omega) (by omega))
            refine wc_i (WC := [(h, .inr (7, [.ref sl, .int na, .ref zs, .ref ln, .ref ir, .ref tk, .int su, .int le, .ref tb, .int fu, .int ap, .int pp, .ref tr, .int v14_0, .ref fz, .int nm])), (sl, .inl (cI, 1653, .inl sf)), (tr, .inl (cI, 16, .inl v14_1))]) (WR := []) (va_runV (As := [.int v]) (rest := [.int 2]) ⟨hx, hb, hml, hown, hts⟩ k_16 (cwV 1 hts gX8_sizeOf_X8_size13 rfl rfl rfl (by decide +kernel) ⟨Nat.le_of_ble_eq_true rfl, Nat.le_of_ble_eq_true rfl⟩) (wp_V hP hK hD hN [1, 0, 2] (by decide) rfl (ci := 7) rfl rfl) rfl rfl hl.1 rfl (lv_room (Nat.le_of_ble_eq_true rfl)) dX8_sizeOf_70 ⟨Nat.le_of_ble_eq_true rfl, Nat.le_of_ble_eq_true rfl⟩) hP hD hS hA [1, 0, 2] [] rfl rfl (by decide) (by decide) (fun r_16 => pe2 (fun v16_0 v16_1 H locs hw_16 hP hD hS => ?_))
            clear k_16
            have hP : va_P D kl [(h, .inr (7, [.ref sl, .int na, .ref zs, .ref ln, .ref ir, .ref tk, .int su, .int le, .ref tb, .int fu, .int ap, .int pp, .ref tr, .int v16_0, .ref fz, .int nm])), (sl, .inl (cI, 1653, .inl sf)), (tr, .inl (cI, 16, .inl v16_1))] H := hP
            have hD : va_D A [(h, .inr (7, [.ref sl, .int na, .ref zs, .ref ln, .ref ir, .ref tk, .int su, .int le, .ref tb, .int fu, .int ap, .int pp, .ref tr, .int v16_0, .ref fz, .int nm])), (sl, .inl (cI, 1653, .inl sf)), (tr, .inl (cI, 16, .inl v16_1))] := hD
            have c16_0 := hw_16
            have c16_0 : 0 ≤ v16_0.toInt ∧ v16_0.toInt ≤ 16 := c16_0
            refine lv_imul hx hb dX8_sizeOf_73 ?_
            refine lv_topi (fun x_17 ex_17 => ?_)
            clear ex_17
            exact wr_i (v := x_17) hx hb hr hlocks hS (v16_0, v16_1) (by exact show 0 ≤ (v16_0 : Int32).toInt ∧ (v16_0 : Int32).toInt ≤ 16 from by omega) (hP.sub [0, 1, 2] rfl) (hD.sub [0, 1, 2] (by decide) rfl) dX8_sizeOf_74
          · have f_15 : x_2.toInt = 2 := zi_eq c_15
            refine lv_aload_n hx hb dX8_sizeOf_58 rfl (lv_at hl 1 rfl) ?_
            refine lv_iload_n hx hb dX8_sizeOf_59 rfl (lv_at hl 2 rfl) ?_
            have k_18 := (g_X8_size11 l D cI cB cQ H.size h sl zs ln ir tk tb tr fz na su le fu ap pp v14_0 nm v sf v14_1 v0 hsi (by omega) (by omega) (by omega) (by omega) (by omega))
            refine wc_i (WC := [(h, .inr (7, [.ref sl, .int na, .ref zs, .ref ln, .ref ir, .ref tk, .int su, .int le, .ref tb, .int fu, .int ap, .int pp, .ref tr, .int v14_0, .ref fz, .int nm])), (sl, .inl (cI, 1653, .inl sf)), (tr, .inl (cI, 16, .inl v14_1))]) (WR := []) (va_runV (As := [.int v]) (rest := []) ⟨hx, hb, hml, hown, hts⟩ k_18 (cwV 1 hts gX8_sizeOf_X8_size11 rfl rfl rfl (by decide +kernel) ⟨Nat.le_of_ble_eq_true rfl, Nat.le_of_ble_eq_true rfl⟩) (wp_V hP hK hD hN [1, 0, 2] (by decide) rfl (ci := 7) rfl rfl) rfl rfl hl.1 rfl (lv_room (Nat.le_of_ble_eq_true rfl)) dX8_sizeOf_60 ⟨Nat.le_of_ble_eq_true rfl, Nat.le_of_ble_eq_true rfl⟩) hP hD hS hA [1, 0, 2] [] rfl rfl (by decide) (by decide) (fun r_18 => pe2 (fun v18_0 v18_1 H locs hw_18 hP hD hS => ?_))
            clear k_18
            have hP : va_P D kl [(h, .inr (7, [.ref sl, .int na, .ref zs, .ref ln, .ref ir, .ref tk, .int su, .int le, .ref tb, .int fu, .int ap, .int pp, .ref tr, .int v18_0, .ref fz, .int nm])), (sl, .inl (cI, 1653, .inl sf)), (tr, .inl (cI, 16, .inl v18_1))] H := hP
            have hD : va_D A [(h, .inr (7, [.ref sl, .int na, .ref zs, .ref ln, .ref ir, .ref tk, .int su, .int le, .ref tb, .int fu, .int ap, .int pp, .ref tr, .int v18_0, .ref fz, .int nm])), (sl, .inl (cI, 1653, .inl sf)), (tr, .inl (cI, 16, .inl v18_1))] := hD
            have c18_0 := hw_18
            have c18_0 : 0 ≤ v18_0.toInt ∧ v18_0.toInt ≤ 16 := c18_0
            refine lv_ineg hx hb dX8_sizeOf_63 ?_
            refine lv_topi (fun x_19 ex_19 => ?_)
            clear ex_19
            refine lv_goto (tgt := 74) hx hb dX8_sizeOf_64 (by decide) ?_
            exact wr_i (v := x_19) hx hb hr hlocks hS (v18_0, v18_1) (by exact show 0 ≤ (v18_0 : Int32).toInt ∧ (v18_0 : Int32).toInt ≤ 16 from by omega) (hP.sub [0, 1, 2] rfl) (hD.sub [0, 1, 2] (by decide) rfl) dX8_sizeOf_74
      · have f_6 : x_2.toInt = 4 := zi_eq c_6
        refine lv_aload_n hx hb dX8_sizeOf_31 rfl (lv_at hl 1 rfl) ?_
        refine lv_iload_n hx hb dX8_sizeOf_32 rfl (lv_at hl 2 rfl) ?_
        have k_20 := (g_X8_size13 l D cI cB cQ s.heap.size h sl zs ln ir tk tb tr fz na su le fu ap pp tc nm v sf trf v0 hsi (by omega) (by omega) (by omega) (by omega) (by omega))
        refine wc_i (WC := [(h, .inr (7, [.ref sl, .int na, .ref zs, .ref ln, .ref ir, .ref tk, .int su, .int le, .ref tb, .int fu, .int ap, .int pp, .ref tr, .int tc, .ref fz, .int nm])), (sl, .inl (cI, 1653, .inl sf)), (tr, .inl (cI, 16, .inl trf))]) (WR := []) (va_runV (As := [.int v]) (rest := []) ⟨hx, hb, hml, hown, hts⟩ k_20 (cwV 1 hts gX8_sizeOf_X8_size13 rfl rfl rfl (by decide +kernel) ⟨Nat.le_of_ble_eq_true rfl, Nat.le_of_ble_eq_true rfl⟩) (wp_V hP hK hD hN [0, 1, 2] (by decide) rfl (ci := 7) rfl rfl) rfl rfl hl.1 rfl (lv_room (Nat.le_of_ble_eq_true rfl)) dX8_sizeOf_33 ⟨Nat.le_of_ble_eq_true rfl, Nat.le_of_ble_eq_true rfl⟩) hP hD hS hA [0, 1, 2] [] rfl rfl (by decide) (by decide) (fun r_20 => pe2 (fun v20_0 v20_1 H locs hw_20 hP hD hS => ?_))
        clear k_20
        have hP : va_P D kl [(h, .inr (7, [.ref sl, .int na, .ref zs, .ref ln, .ref ir, .ref tk, .int su, .int le, .ref tb, .int fu, .int ap, .int pp, .ref tr, .int v20_0, .ref fz, .int nm])), (sl, .inl (cI, 1653, .inl sf)), (tr, .inl (cI, 16, .inl v20_1))] H := hP
        have hD : va_D A [(h, .inr (7, [.ref sl, .int na, .ref zs, .ref ln, .ref ir, .ref tk, .int su, .int le, .ref tb, .int fu, .int ap, .int pp, .ref tr, .int v20_0, .ref fz, .int nm])), (sl, .inl (cI, 1653, .inl sf)), (tr, .inl (cI, 16, .inl v20_1))] := hD
        have c20_0 := hw_20
        have c20_0 : 0 ≤ v20_0.toInt ∧ v20_0.toInt ≤ 16 := c20_0
        exact wr_i (v := r_20) hx hb hr hlocks hS (v20_0, v20_1) (by exact show 0 ≤ (v20_0 : Int32).toInt ∧ (v20_0 : Int32).toInt ≤ 16 from by omega) (hP.sub [0, 1, 2] rfl) (hD.sub [0, 1, 2] (by decide) rfl) dX8_sizeOf_36
    · have f_5 : x_2.toInt = 3 := zi_eq c_5
      refine lv_aload_n hx hb dX8_sizeOf_20 rfl (lv_at hl 1 rfl) ?_
      refine lv_iload_n hx hb dX8_sizeOf_21 rfl (lv_at hl 2 rfl) ?_
      have k_21 := (g_X8_size11 l D cI cB cQ s.heap.size h sl zs ln ir tk tb tr fz na su le fu ap pp tc nm v sf trf v0 hsi (by omega) (by omega) (by omega) (by omega) (by omega))
      refine wc_i (WC := [(h, .inr (7, [.ref sl, .int na, .ref zs, .ref ln, .ref ir, .ref tk, .int su, .int le, .ref tb, .int fu, .int ap, .int pp, .ref tr, .int tc, .ref fz, .int nm])), (sl, .inl (cI, 1653, .inl sf)), (tr, .inl (cI, 16, .inl trf))]) (WR := []) (va_runV (As := [.int v]) (rest := []) ⟨hx, hb, hml, hown, hts⟩ k_21 (cwV 1 hts gX8_sizeOf_X8_size11 rfl rfl rfl (by decide +kernel) ⟨Nat.le_of_ble_eq_true rfl, Nat.le_of_ble_eq_true rfl⟩) (wp_V hP hK hD hN [0, 1, 2] (by decide) rfl (ci := 7) rfl rfl) rfl rfl hl.1 rfl (lv_room (Nat.le_of_ble_eq_true rfl)) dX8_sizeOf_22 ⟨Nat.le_of_ble_eq_true rfl, Nat.le_of_ble_eq_true rfl⟩) hP hD hS hA [0, 1, 2] [] rfl rfl (by decide) (by decide) (fun r_21 => pe2 (fun v21_0 v21_1 H locs hw_21 hP hD hS => ?_))
      clear k_21
      have hP : va_P D kl [(h, .inr (7, [.ref sl, .int na, .ref zs, .ref ln, .ref ir, .ref tk, .int su, .int le, .ref tb, .int fu, .int ap, .int pp, .ref tr, .int v21_0, .ref fz, .int nm])), (sl, .inl (cI, 1653, .inl sf)), (tr, .inl (cI, 16, .inl v21_1))] H := hP
      have hD : va_D A [(h, .inr (7, [.ref sl, .int na, .ref zs, .ref ln, .ref ir, .ref tk, .int su, .int le, .ref tb, .int fu, .int ap, .int pp, .ref tr, .int v21_0, .ref fz, .int nm])), (sl, .inl (cI, 1653, .inl sf)), (tr, .inl (cI, 16, .inl v21_1))] := hD
      have c21_0 := hw_21
      have c21_0 : 0 ≤ v21_0.toInt ∧ v21_0.toInt ≤ 16 := c21_0
      exact wr_i (v := r_21) hx hb hr hlocks hS (v21_0, v21_1) (by exact show 0 ≤ (v21_0 : Int32).toInt ∧ (v21_0 : Int32).toInt ≤ 16 from by omega) (hP.sub [0, 1, 2] rfl) (hD.sub [0, 1, 2] (by decide) rfl) dX8_sizeOf_25
set_option maxHeartbeats 4000000 in
set_option maxRecDepth 100000 in
theorem g_X8_markOf (l : Launch) (D : va_G) (cI cB cQ : ClassId) (sz : Nat) (h : Nat) (sl : Nat) (zs : Nat) (ln : Nat) (ir : Nat) (tk : Nat) (tb : Nat) (tr : Nat) (fz : Nat) (na : Int32) (su : Int32) (le : Int32) (fu : Int32) (ap : Int32) (pp : Int32) (tc : Int32) (nm : Int32) (v : Int32) (sf : Nat → Int32) (trf : Nat → Int32) (v0 : Int) (hsi : SI sf v0) (h_na : 0 ≤ na.toInt ∧ na.toInt ≤ 24) (h_le : 0 ≤ le.toInt ∧ le.toInt ≤ 120) (h_ap : 0 ≤ ap.toInt ∧ ap.toInt ≤ 120) (h_tc : 0 ≤ tc.toInt ∧ tc.toInt ≤ 16) (h_v : 0 ≤ v.toInt ∧ v.toInt ≤ 2) : mi l yX8_markOf wsX8_markOf ({ frames := 6, cells := 0, slots := 0, locals := 131 }) D cI cB cQ [.ref h, .int v] sz [(h, .inr (7, [.ref sl, .int na, .ref zs, .ref ln, .ref ir, .ref tk, .int su, .int le, .ref tb, .int fu, .int ap, .int pp, .ref tr, .int tc, .ref fz, .int nm])), (sl, .inl (cI, 1653, .inl sf)), (tr, .inl (cI, 16, .inl trf))] (fun (r : Int32) (u : Int32 × (Nat → Int32)) => (0 ≤ u.1.toInt ∧ u.1.toInt ≤ 16)) (fun u => [(h, .inr (7, [.ref sl, .int na, .ref zs, .ref ln, .ref ir, .ref tk, .int su, .int le, .ref tb, .int fu, .int ap, .int pp, .ref tr, .int u.1, .ref fz, .int nm])), (sl, .inl (cI, 1653, .inl sf)), (tr, .inl (cI, 16, .inl u.2))]) 0 0 := by
  refine wm_i (cc := cX8_markOf) (maxL := 3) (ret := (some .int)) (by decide) rfl (Nat.le_of_ble_eq_true rfl) ?_
  intro p e s m below meth c A ls hx hb hr hml hown hts hlocks hin hP hK hD hN hA hl hS
  have hown : s.vm.findClass RX8 = some m.cls := hown
  have hl : lv_has ls 3 [(0, .ref h), (1, .int v)] := hl
  change W p l e ({ frames := 6, cells := 0, slots := 0, locals := 131 }) s m ([.ref h, .int v] : List Value).toArray below meth c s.heap [] 0 0 (MQ below (va_Qi (fun (r : Int32) (u : Int32 × (Nat → Int32)) => (0 ≤ u.1.toInt ∧ u.1.toInt ≤ 16)) (fun u t => wb D A ((fun u => [(h, .inr (7, [.ref sl, .int na, .ref zs, .ref ln, .ref ir, .ref tk, .int su, .int le, .ref tb, .int fu, .int ap, .int pp, .ref tr, .int u.1, .ref fz, .int nm])), (sl, .inl (cI, 1653, .inl sf)), (tr, .inl (cI, 16, .inl u.2))]) u) t) A) ([.ref h, .int v] : List Value).toArray s 0 0 A) (F0 m 0 ls [])
  refine lv_aload_n hx hb dX8_markOf_0 rfl (lv_at hl 0 rfl) ?_
  refine va_get (D := D) (ci := 7) (v := .ref sl) (C := RX8) (T := TX8) (N := 16) hx hb hts (fun _ h => List.mem_cons_of_mem _ (List.mem_append_right _ h)) hown hK hP 0 rfl rfl 0 (by decide) (hts (.fieldLink RX8 7 "WinterWalkModel" "slot" "[I") (List.mem_of_getElem? (i := 1) rfl)) (fun _ h9 => h9) rfl dX8_markOf_1 ?_
  refine lv_bipush (v := 20) hx hb dX8_markOf_4 (by decide) ?_
  refine lv_iload_n hx hb dX8_markOf_6 rfl (lv_at hl 1 rfl) ?_
  refine lv_iadd hx hb dX8_markOf_7 ?_
  refine lv_topi (fun x_1 ex_1 => ?_)
  have e_1 : x_1.toInt = 20 + v.toInt := by rw [ex_1]; exact zi_add (by decide) (rfl) (by omega) (by omega)
  clear ex_1
  refine va_iald hx hb hK hP 1 0 rfl rfl (zi_in (by omega) (by omega)) dX8_markOf_8 ?_
  refine lv_topi (fun x_2 ex_2 => ?_)
  clear ex_2
  refine lv_iconst (v := 4) hx hb dX8_markOf_9 (by decide) ?_
  refine lv_icmp_ge (tgt := 19) hx hb dX8_markOf_10 (by decide) (fun c_3 => ?_) (fun c_3 => ?_)
  · have f_3 : 4 ≤ x_2.toInt := zi_le c_3
    refine lv_aload_n hx hb dX8_markOf_19 rfl (lv_at hl 0 rfl) ?_
    refine lv_bipush (v := 23) hx hb dX8_markOf_20 (by decide) ?_
    have k_4 := (g_X8_begins l D cI cB cQ s.heap.size h sl zs ln ir tk tb tr fz na su le fu ap pp tc nm 23 trf (by omega) (by omega) (by omega) (by omega))
    refine wc_v (WC := [(h, .inr (7, [.ref sl, .int na, .ref zs, .ref ln, .ref ir, .ref tk, .int su, .int le, .ref tb, .int fu, .int ap, .int pp, .ref tr, .int tc, .ref fz, .int nm])), (tr, .inl (cI, 16, .inl trf))]) (WR := [(sl, .inl (cI, 1653, .inl sf))]) (va_runV (As := [.int 23]) (rest := []) ⟨hx, hb, hml, hown, hts⟩ k_4 (cwV 1 hts gX8_markOf_X8_begins rfl rfl rfl (by decide +kernel) ⟨Nat.le_of_ble_eq_true rfl, Nat.le_of_ble_eq_true rfl⟩) (wp_V hP hK hD hN [0, 2] (by decide) rfl (ci := 7) rfl rfl) rfl rfl hl.1 rfl (lv_room (Nat.le_of_ble_eq_true rfl)) dX8_markOf_22 ⟨Nat.le_of_ble_eq_true rfl, Nat.le_of_ble_eq_true rfl⟩) hP hD hS hA [0, 2] [1] rfl rfl (by decide) (by decide) (pe2 (fun v4_0 v4_1 H locs hw_4 hP hD hS => ?_))
    clear k_4
    have hP : va_P D kl [(sl, .inl (cI, 1653, .inl sf)), (h, .inr (7, [.ref sl, .int na, .ref zs, .ref ln, .ref ir, .ref tk, .int su, .int le, .ref tb, .int fu, .int ap, .int pp, .ref tr, .int v4_0, .ref fz, .int nm])), (tr, .inl (cI, 16, .inl v4_1))] H := hP
    have hD : va_D A [(sl, .inl (cI, 1653, .inl sf)), (h, .inr (7, [.ref sl, .int na, .ref zs, .ref ln, .ref ir, .ref tk, .int su, .int le, .ref tb, .int fu, .int ap, .int pp, .ref tr, .int v4_0, .ref fz, .int nm])), (tr, .inl (cI, 16, .inl v4_1))] := hD
    have c4_0 := hw_4
    have c4_0 : 0 ≤ v4_0.toInt ∧ v4_0.toInt ≤ 16 := c4_0
    refine lv_aload_n hx hb dX8_markOf_25 rfl (lv_at hl 0 rfl) ?_
    refine lv_iload_n hx hb dX8_markOf_26 rfl (lv_at hl 1 rfl) ?_
    have k_5 := (g_X8_mark20 l D cI cB cQ H.size h sl zs ln ir tk tb tr fz na su le fu ap pp v4_0 nm v sf v4_1 v0 hsi (by omega) (by omega) (by omega) (by omega) (by omega))
    refine wc_i (WC := [(h, .inr (7, [.ref sl, .int na, .ref zs, .ref ln, .ref ir, .ref tk, .int su, .int le, .ref tb, .int fu, .int ap, .int pp, .ref tr, .int v4_0, .ref fz, .int nm])), (sl, .inl (cI, 1653, .inl sf)), (tr, .inl (cI, 16, .inl v4_1))]) (WR := []) (va_runV (As := [.int v]) (rest := []) ⟨hx, hb, hml, hown, hts⟩ k_5 (cwV 1 hts gX8_markOf_X8_mark20 rfl rfl rfl (by decide +kernel) ⟨Nat.le_of_ble_eq_true rfl, Nat.le_of_ble_eq_true rfl⟩) (wp_V hP hK hD hN [1, 0, 2] (by decide) rfl (ci := 7) rfl rfl) rfl rfl hl.1 rfl (lv_room (Nat.le_of_ble_eq_true rfl)) dX8_markOf_27 ⟨Nat.le_of_ble_eq_true rfl, Nat.le_of_ble_eq_true rfl⟩) hP hD hS hA [1, 0, 2] [] rfl rfl (by decide) (by decide) (fun r_5 => pe2 (fun v5_0 v5_1 H locs hw_5 hP hD hS => ?_))
    clear k_5
    have hP : va_P D kl [(h, .inr (7, [.ref sl, .int na, .ref zs, .ref ln, .ref ir, .ref tk, .int su, .int le, .ref tb, .int fu, .int ap, .int pp, .ref tr, .int v5_0, .ref fz, .int nm])), (sl, .inl (cI, 1653, .inl sf)), (tr, .inl (cI, 16, .inl v5_1))] H := hP
    have hD : va_D A [(h, .inr (7, [.ref sl, .int na, .ref zs, .ref ln, .ref ir, .ref tk, .int su, .int le, .ref tb, .int fu, .int ap, .int pp, .ref tr, .int v5_0, .ref fz, .int nm])), (sl, .inl (cI, 1653, .inl sf)), (tr, .inl (cI, 16, .inl v5_1))] := hD
    have c5_0 := hw_5
    have c5_0 : 0 ≤ v5_0.toInt ∧ v5_0.toInt ≤ 16 := c5_0
    refine lv_istore_n (lv' := [(2, .int r_5), (0, .ref h), (1, .int v)]) hx hb dX8_markOf_30 rfl hl (by decide) rfl (fun ls hl => ?_)
    refine lv_iload_n hx hb dX8_markOf_31 rfl (lv_at hl 0 rfl) ?_
    refine lv_aload_n hx hb dX8_markOf_32 rfl (lv_at hl 1 rfl) ?_
    refine lv_iload_n hx hb dX8_markOf_33 rfl (lv_at hl 2 rfl) ?_
    have k_6 := (g_X8_sizeOf l D cI cB cQ H.size h sl zs ln ir tk tb tr fz na su le fu ap pp v5_0 nm v sf v5_1 v0 hsi (by omega) (by omega) (by omega) (by omega) (by omega))
    refine wc_i (WC := [(h, .inr (7, [.ref sl, .int na, .ref zs, .ref ln, .ref ir, .ref tk, .int su, .int le, .ref tb, .int fu, .int ap, .int pp, .ref tr, .int v5_0, .ref fz, .int nm])), (sl, .inl (cI, 1653, .inl sf)), (tr, .inl (cI, 16, .inl v5_1))]) (WR := []) (va_runV (As := [.int v]) (rest := [.int r_5]) ⟨hx, hb, hml, hown, hts⟩ k_6 (cwV 1 hts gX8_markOf_X8_sizeOf rfl rfl rfl (by decide +kernel) ⟨Nat.le_of_ble_eq_true rfl, Nat.le_of_ble_eq_true rfl⟩) (wp_V hP hK hD hN [0, 1, 2] (by decide) rfl (ci := 7) rfl rfl) rfl rfl hl.1 rfl (lv_room (Nat.le_of_ble_eq_true rfl)) dX8_markOf_34 ⟨Nat.le_of_ble_eq_true rfl, Nat.le_of_ble_eq_true rfl⟩) hP hD hS hA [0, 1, 2] [] rfl rfl (by decide) (by decide) (fun r_6 => pe2 (fun v6_0 v6_1 H locs hw_6 hP hD hS => ?_))
    clear k_6
    have hP : va_P D kl [(h, .inr (7, [.ref sl, .int na, .ref zs, .ref ln, .ref ir, .ref tk, .int su, .int le, .ref tb, .int fu, .int ap, .int pp, .ref tr, .int v6_0, .ref fz, .int nm])), (sl, .inl (cI, 1653, .inl sf)), (tr, .inl (cI, 16, .inl v6_1))] H := hP
    have hD : va_D A [(h, .inr (7, [.ref sl, .int na, .ref zs, .ref ln, .ref ir, .ref tk, .int su, .int le, .ref tb, .int fu, .int ap, .int pp, .ref tr, .int v6_0, .ref fz, .int nm])), (sl, .inl (cI, 1653, .inl sf)), (tr, .inl (cI, 16, .inl v6_1))] := hD
    have c6_0 := hw_6
    have c6_0 : 0 ≤ v6_0.toInt ∧ v6_0.toInt ≤ 16 := c6_0
    refine lv_isub hx hb dX8_markOf_37 ?_
    refine lv_topi (fun x_7 ex_7 => ?_)
    clear ex_7
    exact wr_i (v := x_7) hx hb hr hlocks hS (v6_0, v6_1) (by exact show 0 ≤ (v6_0 : Int32).toInt ∧ (v6_0 : Int32).toInt ≤ 16 from by omega) (hP.sub [0, 1, 2] rfl) (hD.sub [0, 1, 2] (by decide) rfl) dX8_markOf_38
  · have f_3 : ¬ 4 ≤ x_2.toInt := zi_nle c_3
    refine lv_aload_n hx hb dX8_markOf_13 rfl (lv_at hl 0 rfl) ?_
    refine lv_iload_n hx hb dX8_markOf_14 rfl (lv_at hl 1 rfl) ?_
    have k_8 := (g_X8_markOld l D cI cB cQ s.heap.size h sl zs ln ir tk tb tr fz na su le fu ap pp tc nm v sf trf v0 hsi (by omega) (by omega) (by omega) (by omega) (by omega))
    refine wc_i (WC := [(h, .inr (7, [.ref sl, .int na, .ref zs, .ref ln, .ref ir, .ref tk, .int su, .int le, .ref tb, .int fu, .int ap, .int pp, .ref tr, .int tc, .ref fz, .int nm])), (sl, .inl (cI, 1653, .inl sf)), (tr, .inl (cI, 16, .inl trf))]) (WR := []) (va_runV (As := [.int v]) (rest := []) ⟨hx, hb, hml, hown, hts⟩ k_8 (cwV 1 hts gX8_markOf_X8_markOld rfl rfl rfl (by decide +kernel) ⟨Nat.le_of_ble_eq_true rfl, Nat.le_of_ble_eq_true rfl⟩) (wp_V hP hK hD hN [0, 1, 2] (by decide) rfl (ci := 7) rfl rfl) rfl rfl hl.1 rfl (lv_room (Nat.le_of_ble_eq_true rfl)) dX8_markOf_15 ⟨Nat.le_of_ble_eq_true rfl, Nat.le_of_ble_eq_true rfl⟩) hP hD hS hA [0, 1, 2] [] rfl rfl (by decide) (by decide) (fun r_8 => pe2 (fun v8_0 v8_1 H locs hw_8 hP hD hS => ?_))
    clear k_8
    have hP : va_P D kl [(h, .inr (7, [.ref sl, .int na, .ref zs, .ref ln, .ref ir, .ref tk, .int su, .int le, .ref tb, .int fu, .int ap, .int pp, .ref tr, .int v8_0, .ref fz, .int nm])), (sl, .inl (cI, 1653, .inl sf)), (tr, .inl (cI, 16, .inl v8_1))] H := hP
    have hD : va_D A [(h, .inr (7, [.ref sl, .int na, .ref zs, .ref ln, .ref ir, .ref tk, .int su, .int le, .ref tb, .int fu, .int ap, .int pp, .ref tr, .int v8_0, .ref fz, .int nm])), (sl, .inl (cI, 1653, .inl sf)), (tr, .inl (cI, 16, .inl v8_1))] := hD
    have c8_0 := hw_8
    have c8_0 : 0 ≤ v8_0.toInt ∧ v8_0.toInt ≤ 16 := c8_0
    exact wr_i (v := r_8) hx hb hr hlocks hS (v8_0, v8_1) (by exact show 0 ≤ (v8_0 : Int32).toInt ∧ (v8_0 : Int32).toInt ≤ 16 from by omega) (hP.sub [0, 1, 2] rfl) (hD.sub [0, 1, 2] (by decide) rfl) dX8_markOf_18
set_option maxHeartbeats 4000000 in
set_option maxRecDepth 100000 in
theorem g_X8_ask (l : Launch) (D : va_G) (cI cB cQ : ClassId) (sz : Nat) (h : Nat) (sl : Nat) (zs : Nat) (ln : Nat) (ir : Nat) (tk : Nat) (tb : Nat) (tr : Nat) (fz : Nat) (na : Int32) (su : Int32) (le : Int32) (fu : Int32) (ap : Int32) (pp : Int32) (tc : Int32) (nm : Int32) (v : Int32) (k : Int32) (sf : Nat → Int32) (trf : Nat → Int32) (v0 : Int) (hsi : SI sf v0) (h_na : 0 ≤ na.toInt ∧ na.toInt ≤ 24) (h_le : 0 ≤ le.toInt ∧ le.toInt ≤ 120) (h_ap : 0 ≤ ap.toInt ∧ ap.toInt ≤ 120) (h_tc : 0 ≤ tc.toInt ∧ tc.toInt ≤ 16) : mi l yX8_ask wsX8_ask ({ frames := 7, cells := 0, slots := 0, locals := 153 }) D cI cB cQ [.ref h, .int v, .int k] sz [(h, .inr (7, [.ref sl, .int na, .ref zs, .ref ln, .ref ir, .ref tk, .int su, .int le, .ref tb, .int fu, .int ap, .int pp, .ref tr, .int tc, .ref fz, .int nm])), (sl, .inl (cI, 1653, .inl sf)), (tr, .inl (cI, 16, .inl trf))] (fun (r : Int32) (u : Int32 × (Nat → Int32)) => (0 ≤ u.1.toInt ∧ u.1.toInt ≤ 16)) (fun u => [(h, .inr (7, [.ref sl, .int na, .ref zs, .ref ln, .ref ir, .ref tk, .int su, .int le, .ref tb, .int fu, .int ap, .int pp, .ref tr, .int u.1, .ref fz, .int nm])), (sl, .inl (cI, 1653, .inl sf)), (tr, .inl (cI, 16, .inl u.2))]) 0 0 := by
  refine wm_i (cc := cX8_ask) (maxL := 3) (ret := (some .int)) (by decide) rfl (Nat.le_of_ble_eq_true rfl) ?_
  intro p e s m below meth c A ls hx hb hr hml hown hts hlocks hin hP hK hD hN hA hl hS
  have hown : s.vm.findClass RX8 = some m.cls := hown
  have hl : lv_has ls 3 [(0, .ref h), (1, .int v), (2, .int k)] := hl
  change W p l e ({ frames := 7, cells := 0, slots := 0, locals := 153 }) s m ([.ref h, .int v, .int k] : List Value).toArray below meth c s.heap [] 0 0 (MQ below (va_Qi (fun (r : Int32) (u : Int32 × (Nat → Int32)) => (0 ≤ u.1.toInt ∧ u.1.toInt ≤ 16)) (fun u t => wb D A ((fun u => [(h, .inr (7, [.ref sl, .int na, .ref zs, .ref ln, .ref ir, .ref tk, .int su, .int le, .ref tb, .int fu, .int ap, .int pp, .ref tr, .int u.1, .ref fz, .int nm])), (sl, .inl (cI, 1653, .inl sf)), (tr, .inl (cI, 16, .inl u.2))]) u) t) A) ([.ref h, .int v, .int k] : List Value).toArray s 0 0 A) (F0 m 0 ls [])
  refine lv_aload_n hx hb dX8_ask_0 rfl (lv_at hl 0 rfl) ?_
  refine lv_iload_n hx hb dX8_ask_1 rfl (lv_at hl 1 rfl) ?_
  have k_1 := (g_X8_isWalkerThere l D cI cB cQ s.heap.size h sl zs ln ir tk tb tr fz na su le fu ap pp tc nm v sf v0 hsi)
  refine wc_i (WC := [(h, .inr (7, [.ref sl, .int na, .ref zs, .ref ln, .ref ir, .ref tk, .int su, .int le, .ref tb, .int fu, .int ap, .int pp, .ref tr, .int tc, .ref fz, .int nm])), (sl, .inl (cI, 1653, .inl sf))]) (WR := [(tr, .inl (cI, 16, .inl trf))]) (va_runV (As := [.int v]) (rest := []) ⟨hx, hb, hml, hown, hts⟩ k_1 (cwV 1 hts gX8_ask_X8_isWalkerThere rfl rfl rfl (by decide +kernel) ⟨Nat.le_of_ble_eq_true rfl, Nat.le_of_ble_eq_true rfl⟩) (wp_V hP hK hD hN [0, 1] (by decide) rfl (ci := 7) rfl rfl) rfl rfl hl.1 rfl (lv_room (Nat.le_of_ble_eq_true rfl)) dX8_ask_2 ⟨Nat.le_of_ble_eq_true rfl, Nat.le_of_ble_eq_true rfl⟩) hP hD hS hA [0, 1] [2] rfl rfl (by decide) (by decide) (fun r_1 u_1 H locs hw_1 hP hD hS => ?_)
  clear k_1
  have hP : va_P D kl [(tr, .inl (cI, 16, .inl trf)), (h, .inr (7, [.ref sl, .int na, .ref zs, .ref ln, .ref ir, .ref tk, .int su, .int le, .ref tb, .int fu, .int ap, .int pp, .ref tr, .int tc, .ref fz, .int nm])), (sl, .inl (cI, 1653, .inl sf))] H := hP
  have hD : va_D A [(tr, .inl (cI, 16, .inl trf)), (h, .inr (7, [.ref sl, .int na, .ref zs, .ref ln, .ref ir, .ref tk, .int su, .int le, .ref tb, .int fu, .int ap, .int pp, .ref tr, .int tc, .ref fz, .int nm])), (sl, .inl (cI, 1653, .inl sf))] := hD
  have c1_0 := hw_1
  rcases c1_0 with ⟨e_1, f_1⟩ | e_1
  · subst e_1
    have f_1 : 0 ≤ v.toInt ∧ v.toInt ≤ 2 := f_1
    refine lv_if_eq (tgt := 18) hx hb dX8_ask_5 (by decide) (fun c9 => absurd c9 (by decide)) (fun _ => ?_)
    refine lv_iload_n hx hb dX8_ask_8 rfl (lv_at hl 2 rfl) ?_
    refine lv_i2l (v := (k.toInt64)) hx hb dX8_ask_9 rfl ?_
    refine lv_lconst (v := 0) hx hb dX8_ask_10 (by decide) ?_
    refine lv_lconst (v := 1) hx hb dX8_ask_11 (by decide) ?_
    have k_2 := (g_X8_in l D cI cB cQ H.size (k.toInt64) 0 1)
    refine wc_i (WC := []) (WR := [(tr, .inl (cI, 16, .inl trf)), (h, .inr (7, [.ref sl, .int na, .ref zs, .ref ln, .ref ir, .ref tk, .int su, .int le, .ref tb, .int fu, .int ap, .int pp, .ref tr, .int tc, .ref fz, .int nm])), (sl, .inl (cI, 1653, .inl sf))]) (va_runS (As := [.long (k.toInt64), .long 0, .long 1]) (rest := []) ⟨hx, hb, hml, hown, hts⟩ k_2 (va_cwS 3 hts gX8_ask_X8_in rfl rfl rfl (by decide +kernel) ⟨Nat.le_of_ble_eq_true rfl, Nat.le_of_ble_eq_true rfl⟩) (wp_S hP hK hD hN [] (by decide) rfl) rfl rfl hl.1 rfl (lv_room (Nat.le_of_ble_eq_true rfl)) dX8_ask_12 ⟨Nat.le_of_ble_eq_true rfl, Nat.le_of_ble_eq_true rfl⟩) hP hD hS hA [] [0, 1, 2] rfl rfl (by decide) (by decide) (fun r_2 u_2 H locs hw_2 hP hD hS => ?_)
    clear k_2
    have hP : va_P D kl [(tr, .inl (cI, 16, .inl trf)), (h, .inr (7, [.ref sl, .int na, .ref zs, .ref ln, .ref ir, .ref tk, .int su, .int le, .ref tb, .int fu, .int ap, .int pp, .ref tr, .int tc, .ref fz, .int nm])), (sl, .inl (cI, 1653, .inl sf))] H := hP
    have hD : va_D A [(tr, .inl (cI, 16, .inl trf)), (h, .inr (7, [.ref sl, .int na, .ref zs, .ref ln, .ref ir, .ref tk, .int su, .int le, .ref tb, .int fu, .int ap, .int pp, .ref tr, .int tc, .ref fz, .int nm])), (sl, .inl (cI, 1653, .inl sf))] := hD
    have c2_0 := hw_2
    rcases c2_0 with ⟨e_2, f_2⟩ | ⟨e_2, f_2⟩
    · subst e_2
      have f_2 : (0 : Int) ≤ k.toInt ∧ k.toInt ≤ (1 : Int) := by
        have h8 := f_2
        try simp only [zl_of] at h8
        exact h8
      refine lv_if_ne (tgt := 21) hx hb dX8_ask_15 (by decide) (fun _ => ?_) (fun c9 => absurd c9 (by decide))
      refine lv_aload_n hx hb dX8_ask_21 rfl (lv_at hl 0 rfl) ?_
      refine lv_iconst (v := 0) hx hb dX8_ask_22 (by decide) ?_
      refine va_put (D := D) (ci := 7) (v := .int 0) (ty := .int) (C := RX8) (T := TX8) (N := 16) hx hb hts (fun _ h => List.mem_cons_of_mem _ (List.mem_append_right _ h)) tyX8 tyX8_ok nmX8 hown hK hP hD hS 1 rfl rfl 13 (by decide) (hts (.fieldLink RX8 208 "WinterWalkModel" "traced" "I") (List.mem_of_getElem? (i := 2) rfl)) (fun _ h9 => h9) rfl (by decide +kernel) rfl rfl (Nat.le_of_ble_eq_true rfl) dX8_ask_23 (fun H locs hP hD hS => ?_)
      have hP : va_P D kl [(tr, .inl (cI, 16, .inl trf)), (h, .inr (7, [.ref sl, .int na, .ref zs, .ref ln, .ref ir, .ref tk, .int su, .int le, .ref tb, .int fu, .int ap, .int pp, .ref tr, .int 0, .ref fz, .int nm])), (sl, .inl (cI, 1653, .inl sf))] H := hP
      have hD : va_D A [(tr, .inl (cI, 16, .inl trf)), (h, .inr (7, [.ref sl, .int na, .ref zs, .ref ln, .ref ir, .ref tk, .int su, .int le, .ref tb, .int fu, .int ap, .int pp, .ref tr, .int 0, .ref fz, .int nm])), (sl, .inl (cI, 1653, .inl sf))] := hD
      refine lv_iload_n hx hb dX8_ask_26 rfl (lv_at hl 2 rfl) ?_
      refine lv_if_ne (tgt := 38) hx hb dX8_ask_27 (by decide) (fun c_3 => ?_) (fun c_3 => ?_)
      · have f_3 : ¬ k.toInt = 0 := zi_ne c_3
        refine lv_aload_n hx hb dX8_ask_38 rfl (lv_at hl 0 rfl) ?_
        refine lv_iload_n hx hb dX8_ask_39 rfl (lv_at hl 1 rfl) ?_
        have k_4 := (g_X8_markOf l D cI cB cQ H.size h sl zs ln ir tk tb tr fz na su le fu ap pp 0 nm v sf trf v0 hsi (by omega) (by omega) (by omega) ⟨by decide, by decide⟩ (by omega))
        refine wc_i (WC := [(h, .inr (7, [.ref sl, .int na, .ref zs, .ref ln, .ref ir, .ref tk, .int su, .int le, .ref tb, .int fu, .int ap, .int pp, .ref tr, .int 0, .ref fz, .int nm])), (sl, .inl (cI, 1653, .inl sf)), (tr, .inl (cI, 16, .inl trf))]) (WR := []) (va_runV (As := [.int v]) (rest := []) ⟨hx, hb, hml, hown, hts⟩ k_4 (cwV 1 hts gX8_ask_X8_markOf rfl rfl rfl (by decide +kernel) ⟨Nat.le_of_ble_eq_true rfl, Nat.le_of_ble_eq_true rfl⟩) (wp_V hP hK hD hN [1, 2, 0] (by decide) rfl (ci := 7) rfl rfl) rfl rfl hl.1 rfl (lv_room (Nat.le_of_ble_eq_true rfl)) dX8_ask_40 ⟨Nat.le_of_ble_eq_true rfl, Nat.le_of_ble_eq_true rfl⟩) hP hD hS hA [1, 2, 0] [] rfl rfl (by decide) (by decide) (fun r_4 => pe2 (fun v4_0 v4_1 H locs hw_4 hP hD hS => ?_))
        clear k_4
        have hP : va_P D kl [(h, .inr (7, [.ref sl, .int na, .ref zs, .ref ln, .ref ir, .ref tk, .int su, .int le, .ref tb, .int fu, .int ap, .int pp, .ref tr, .int v4_0, .ref fz, .int nm])), (sl, .inl (cI, 1653, .inl sf)), (tr, .inl (cI, 16, .inl v4_1))] H := hP
        have hD : va_D A [(h, .inr (7, [.ref sl, .int na, .ref zs, .ref ln, .ref ir, .ref tk, .int su, .int le, .ref tb, .int fu, .int ap, .int pp, .ref tr, .int v4_0, .ref fz, .int nm])), (sl, .inl (cI, 1653, .inl sf)), (tr, .inl (cI, 16, .inl v4_1))] := hD
        have c4_0 := hw_4
        have c4_0 : 0 ≤ v4_0.toInt ∧ v4_0.toInt ≤ 16 := c4_0
        exact wr_i (v := r_4) hx hb hr hlocks hS (v4_0, v4_1) (by exact show 0 ≤ (v4_0 : Int32).toInt ∧ (v4_0 : Int32).toInt ≤ 16 from by omega) (hP.sub [0, 1, 2] rfl) (hD.sub [0, 1, 2] (by decide) rfl) dX8_ask_43
      · have f_3 : k.toInt = 0 := zi_eq c_3
        refine lv_aload_n hx hb dX8_ask_30 rfl (lv_at hl 0 rfl) ?_
        refine lv_iload_n hx hb dX8_ask_31 rfl (lv_at hl 1 rfl) ?_
        have k_5 := (g_X8_sizeOf l D cI cB cQ H.size h sl zs ln ir tk tb tr fz na su le fu ap pp 0 nm v sf trf v0 hsi (by omega) (by omega) (by omega) ⟨by decide, by decide⟩ (by omega))
        refine wc_i (WC := [(h, .inr (7, [.ref sl, .int na, .ref zs, .ref ln, .ref ir, .ref tk, .int su, .int le, .ref tb, .int fu, .int ap, .int pp, .ref tr, .int 0, .ref fz, .int nm])), (sl, .inl (cI, 1653, .inl sf)), (tr, .inl (cI, 16, .inl trf))]) (WR := []) (va_runV (As := [.int v]) (rest := []) ⟨hx, hb, hml, hown, hts⟩ k_5 (cwV 1 hts gX8_ask_X8_sizeOf rfl rfl rfl (by decide +kernel) ⟨Nat.le_of_ble_eq_true rfl, Nat.le_of_ble_eq_true rfl⟩) (wp_V hP hK hD hN [1, 2, 0] (by decide) rfl (ci := 7) rfl rfl) rfl rfl hl.1 rfl (lv_room (Nat.le_of_ble_eq_true rfl)) dX8_ask_32 ⟨Nat.le_of_ble_eq_true rfl, Nat.le_of_ble_eq_true rfl⟩) hP hD hS hA [1, 2, 0] [] rfl rfl (by decide) (by decide) (fun r_5 => pe2 (fun v5_0 v5_1 H locs hw_5 hP hD hS => ?_))
        clear k_5
        have hP : va_P D kl [(h, .inr (7, [.ref sl, .int na, .ref zs, .ref ln, .ref ir, .ref tk, .int su, .int le, .ref tb, .int fu, .int ap, .int pp, .ref tr, .int v5_0, .ref fz, .int nm])), (sl, .inl (cI, 1653, .inl sf)), (tr, .inl (cI, 16, .inl v5_1))] H := hP
        have hD : va_D A [(h, .inr (7, [.ref sl, .int na, .ref zs, .ref ln, .ref ir, .ref tk, .int su, .int le, .ref tb, .int fu, .int ap, .int pp, .ref tr, .int v5_0, .ref fz, .int nm])), (sl, .inl (cI, 1653, .inl sf)), (tr, .inl (cI, 16, .inl v5_1))] := hD
        have c5_0 := hw_5
        have c5_0 : 0 ≤ v5_0.toInt ∧ v5_0.toInt ≤ 16 := c5_0
        refine lv_goto (tgt := 43) hx hb dX8_ask_35 (by decide) ?_
        exact wr_i (v := r_5) hx hb hr hlocks hS (v5_0, v5_1) (by exact show 0 ≤ (v5_0 : Int32).toInt ∧ (v5_0 : Int32).toInt ≤ 16 from by omega) (hP.sub [0, 1, 2] rfl) (hD.sub [0, 1, 2] (by decide) rfl) dX8_ask_43
    · subst e_2
      have f_2 : ¬ ((0 : Int) ≤ k.toInt ∧ k.toInt ≤ (1 : Int)) := by
        have h8 := f_2
        try simp only [zl_of] at h8
        exact h8
      refine lv_if_ne (tgt := 21) hx hb dX8_ask_15 (by decide) (fun c9 => absurd (by decide) c9) (fun _ => ?_)
      refine lv_ldc (v := (-1000001)) hx hb hown (hts (.constant RX8 48 (-1000001)) (List.mem_of_getElem? (i := 1) rfl)) dX8_ask_18 ?_
      exact wr_i (v := (-1000001)) hx hb hr hlocks hS (tc, trf) (by exact show 0 ≤ (tc : Int32).toInt ∧ (tc : Int32).toInt ≤ 16 from by omega) (hP.sub [1, 2, 0] rfl) (hD.sub [1, 2, 0] (by decide) rfl) dX8_ask_20
  · subst e_1
    refine lv_if_eq (tgt := 18) hx hb dX8_ask_5 (by decide) (fun _ => ?_) (fun c9 => absurd (by decide) c9)
    refine lv_ldc (v := (-1000001)) hx hb hown (hts (.constant RX8 48 (-1000001)) (List.mem_of_getElem? (i := 1) rfl)) dX8_ask_18 ?_
    exact wr_i (v := (-1000001)) hx hb hr hlocks hS (tc, trf) (by exact show 0 ≤ (tc : Int32).toInt ∧ (tc : Int32).toInt ≤ 16 from by omega) (hP.sub [1, 2, 0] rfl) (hD.sub [1, 2, 0] (by decide) rfl) dX8_ask_20
set_option maxHeartbeats 4000000 in
set_option maxRecDepth 100000 in
theorem g_X8_trace (l : Launch) (D : va_G) (cI cB cQ : ClassId) (sz : Nat) (h : Nat) (sl : Nat) (zs : Nat) (ln : Nat) (ir : Nat) (tk : Nat) (tb : Nat) (tr : Nat) (fz : Nat) (na : Int32) (su : Int32) (le : Int32) (fu : Int32) (ap : Int32) (pp : Int32) (tc : Int32) (nm : Int32) (i : Int32) (trf : Nat → Int32) (h_na : 0 ≤ na.toInt ∧ na.toInt ≤ 24) (h_le : 0 ≤ le.toInt ∧ le.toInt ≤ 120) (h_ap : 0 ≤ ap.toInt ∧ ap.toInt ≤ 120) (h_tc : 0 ≤ tc.toInt ∧ tc.toInt ≤ 16) : mi l yX8_trace wsX8_trace ({ frames := 1, cells := 0, slots := 0, locals := 25 }) D cI cB cQ [.ref h, .int i] sz [(h, .inr (7, [.ref sl, .int na, .ref zs, .ref ln, .ref ir, .ref tk, .int su, .int le, .ref tb, .int fu, .int ap, .int pp, .ref tr, .int tc, .ref fz, .int nm])), (tr, .inl (cI, 16, .inl trf))] (fun (r : Int32) (_u : Unit) => True) (fun _ => [(h, .inr (7, [.ref sl, .int na, .ref zs, .ref ln, .ref ir, .ref tk, .int su, .int le, .ref tb, .int fu, .int ap, .int pp, .ref tr, .int tc, .ref fz, .int nm])), (tr, .inl (cI, 16, .inl trf))]) 0 0 := by
  refine wm_i (cc := cX8_trace) (maxL := 2) (ret := (some .int)) (by decide) rfl (Nat.le_of_ble_eq_true rfl) ?_
  intro p e s m below meth c A ls hx hb hr hml hown hts hlocks hin hP hK hD hN hA hl hS
  have hown : s.vm.findClass RX8 = some m.cls := hown
  have hl : lv_has ls 2 [(0, .ref h), (1, .int i)] := hl
  change W p l e ({ frames := 1, cells := 0, slots := 0, locals := 25 }) s m ([.ref h, .int i] : List Value).toArray below meth c s.heap [] 0 0 (MQ below (va_Qi (fun (r : Int32) (_u : Unit) => True) (fun u t => wb D A ((fun _ => [(h, .inr (7, [.ref sl, .int na, .ref zs, .ref ln, .ref ir, .ref tk, .int su, .int le, .ref tb, .int fu, .int ap, .int pp, .ref tr, .int tc, .ref fz, .int nm])), (tr, .inl (cI, 16, .inl trf))]) u) t) A) ([.ref h, .int i] : List Value).toArray s 0 0 A) (F0 m 0 ls [])
  refine lv_iload_n hx hb dX8_trace_0 rfl (lv_at hl 1 rfl) ?_
  refine lv_i2l (v := (i.toInt64)) hx hb dX8_trace_1 rfl ?_
  refine lv_lconst (v := 0) hx hb dX8_trace_2 (by decide) ?_
  refine lv_aload_n hx hb dX8_trace_3 rfl (lv_at hl 0 rfl) ?_
  refine va_get (D := D) (ci := 7) (v := .int tc) (C := RX8) (T := TX8) (N := 16) hx hb hts (fun _ h => List.mem_cons_of_mem _ (List.mem_append_right _ h)) hown hK hP 0 rfl rfl 13 (by decide) (hts (.fieldLink RX8 208 "WinterWalkModel" "traced" "I") (List.mem_of_getElem? (i := 1) rfl)) (fun _ h9 => h9) rfl dX8_trace_4 ?_
  refine lv_iconst (v := 1) hx hb dX8_trace_7 (by decide) ?_
  refine lv_isub hx hb dX8_trace_8 ?_
  refine lv_topi (fun x_1 ex_1 => ?_)
  have e_1 : x_1.toInt = tc.toInt - 1 := by rw [ex_1]; exact zi_sub (rfl) (by decide) (by omega) (by omega)
  clear ex_1
  refine lv_i2l (v := (x_1.toInt64)) hx hb dX8_trace_9 rfl ?_
  have k_2 := (g_X8_in l D cI cB cQ s.heap.size (i.toInt64) 0 (x_1.toInt64))
  refine wc_i (WC := []) (WR := [(h, .inr (7, [.ref sl, .int na, .ref zs, .ref ln, .ref ir, .ref tk, .int su, .int le, .ref tb, .int fu, .int ap, .int pp, .ref tr, .int tc, .ref fz, .int nm])), (tr, .inl (cI, 16, .inl trf))]) (va_runS (As := [.long (i.toInt64), .long 0, .long (x_1.toInt64)]) (rest := []) ⟨hx, hb, hml, hown, hts⟩ k_2 (va_cwS 3 hts gX8_trace_X8_in rfl rfl rfl (by decide +kernel) ⟨Nat.le_of_ble_eq_true rfl, Nat.le_of_ble_eq_true rfl⟩) (wp_S hP hK hD hN [] (by decide) rfl) rfl rfl hl.1 rfl (lv_room (Nat.le_of_ble_eq_true rfl)) dX8_trace_10 ⟨Nat.le_of_ble_eq_true rfl, Nat.le_of_ble_eq_true rfl⟩) hP hD hS hA [] [0, 1] rfl rfl (by decide) (by decide) (fun r_2 u_2 H locs hw_2 hP hD hS => ?_)
  clear k_2
  have hP : va_P D kl [(h, .inr (7, [.ref sl, .int na, .ref zs, .ref ln, .ref ir, .ref tk, .int su, .int le, .ref tb, .int fu, .int ap, .int pp, .ref tr, .int tc, .ref fz, .int nm])), (tr, .inl (cI, 16, .inl trf))] H := hP
  have hD : va_D A [(h, .inr (7, [.ref sl, .int na, .ref zs, .ref ln, .ref ir, .ref tk, .int su, .int le, .ref tb, .int fu, .int ap, .int pp, .ref tr, .int tc, .ref fz, .int nm])), (tr, .inl (cI, 16, .inl trf))] := hD
  have c2_0 := hw_2
  rcases c2_0 with ⟨e_2, f_2⟩ | ⟨e_2, f_2⟩
  · subst e_2
    have f_2 : (0 : Int) ≤ i.toInt ∧ i.toInt ≤ x_1.toInt := by
      have h8 := f_2
      try simp only [zl_of] at h8
      exact h8
    refine lv_if_eq (tgt := 25) hx hb dX8_trace_13 (by decide) (fun c9 => absurd c9 (by decide)) (fun _ => ?_)
    refine lv_aload_n hx hb dX8_trace_16 rfl (lv_at hl 0 rfl) ?_
    refine va_get (D := D) (ci := 7) (v := .ref tr) (C := RX8) (T := TX8) (N := 16) hx hb hts (fun _ h => List.mem_cons_of_mem _ (List.mem_append_right _ h)) hown hK hP 0 rfl rfl 12 (by decide) (hts (.fieldLink RX8 29 "WinterWalkModel" "trace" "[I") (List.mem_of_getElem? (i := 2) rfl)) (fun _ h9 => h9) rfl dX8_trace_17 ?_
    refine lv_iload_n hx hb dX8_trace_20 rfl (lv_at hl 1 rfl) ?_
    refine va_iald hx hb hK hP 1 0 rfl rfl (zi_in (by omega) (by omega)) dX8_trace_21 ?_
    refine lv_topi (fun x_3 ex_3 => ?_)
    clear ex_3
    refine lv_goto (tgt := 27) hx hb dX8_trace_22 (by decide) ?_
    exact wr_i (v := x_3) hx hb hr hlocks hS () (by trivial) (hP.sub [0, 1] rfl) (hD.sub [0, 1] (by decide) rfl) dX8_trace_27
  · subst e_2
    have f_2 : ¬ ((0 : Int) ≤ i.toInt ∧ i.toInt ≤ x_1.toInt) := by
      have h8 := f_2
      try simp only [zl_of] at h8
      exact h8
    refine lv_if_eq (tgt := 25) hx hb dX8_trace_13 (by decide) (fun _ => ?_) (fun c9 => absurd (by decide) c9)
    refine lv_ldc (v := (-1000000)) hx hb hown (hts (.constant RX8 99 (-1000000)) (List.mem_of_getElem? (i := 3) rfl)) dX8_trace_25 ?_
    exact wr_i (v := (-1000000)) hx hb hr hlocks hS () (by trivial) (hP.sub [0, 1] rfl) (hD.sub [0, 1] (by decide) rfl) dX8_trace_27
set_option maxHeartbeats 4000000 in
set_option maxRecDepth 100000 in
theorem g_X8_count (l : Launch) (D : va_G) (cI cB cQ : ClassId) (sz : Nat) (h : Nat) (sl : Nat) (zs : Nat) (ln : Nat) (ir : Nat) (tk : Nat) (tb : Nat) (tr : Nat) (fz : Nat) (na : Int32) (su : Int32) (le : Int32) (fu : Int32) (ap : Int32) (pp : Int32) (tc : Int32) (nm : Int32) (k : Int32) (sf : Nat → Int32) (zf : Nat → Int32) (v0 : Int) (hsi : SI sf v0) (hz : ∀ j, j < 8 → (-1) ≤ (zf j).toInt ∧ (zf j).toInt ≤ 40) : mi l yX8_count wsX8_count ({ frames := 1, cells := 0, slots := 0, locals := 25 }) D cI cB cQ [.ref h, .int k] sz [(h, .inr (7, [.ref sl, .int na, .ref zs, .ref ln, .ref ir, .ref tk, .int su, .int le, .ref tb, .int fu, .int ap, .int pp, .ref tr, .int tc, .ref fz, .int nm])), (sl, .inl (cI, 1653, .inl sf)), (zs, .inl (cI, 8, .inl zf))] (fun (r : Int32) (_u : Unit) => True) (fun _ => [(h, .inr (7, [.ref sl, .int na, .ref zs, .ref ln, .ref ir, .ref tk, .int su, .int le, .ref tb, .int fu, .int ap, .int pp, .ref tr, .int tc, .ref fz, .int nm])), (sl, .inl (cI, 1653, .inl sf)), (zs, .inl (cI, 8, .inl zf))]) 0 0 := by
  refine wm_i (cc := cX8_count) (maxL := 4) (ret := (some .int)) (by decide) rfl (Nat.le_of_ble_eq_true rfl) ?_
  intro p e s m below meth c A ls hx hb hr hml hown hts hlocks hin hP hK hD hN hA hl hS
  have hown : s.vm.findClass RX8 = some m.cls := hown
  have hl : lv_has ls 4 [(0, .ref h), (1, .int k)] := hl
  change W p l e ({ frames := 1, cells := 0, slots := 0, locals := 25 }) s m ([.ref h, .int k] : List Value).toArray below meth c s.heap [] 0 0 (MQ below (va_Qi (fun (r : Int32) (_u : Unit) => True) (fun u t => wb D A ((fun _ => [(h, .inr (7, [.ref sl, .int na, .ref zs, .ref ln, .ref ir, .ref tk, .int su, .int le, .ref tb, .int fu, .int ap, .int pp, .ref tr, .int tc, .ref fz, .int nm])), (sl, .inl (cI, 1653, .inl sf)), (zs, .inl (cI, 8, .inl zf))]) u) t) A) ([.ref h, .int k] : List Value).toArray s 0 0 A) (F0 m 0 ls [])
  refine lv_iload_n hx hb dX8_count_0 rfl (lv_at hl 1 rfl) ?_
  refine lv_i2l (v := (k.toInt64)) hx hb dX8_count_1 rfl ?_
  refine lv_lconst (v := 0) hx hb dX8_count_2 (by decide) ?_
  refine lv_ldc2 (v := 8) hx hb hown (hts (.constantLong RX8 238 (8)) (List.mem_of_getElem? (i := 1) rfl)) dX8_count_3 ?_
  have k_1 := (g_X8_in l D cI cB cQ s.heap.size (k.toInt64) 0 8)
  refine wc_i (WC := []) (WR := [(h, .inr (7, [.ref sl, .int na, .ref zs, .ref ln, .ref ir, .ref tk, .int su, .int le, .ref tb, .int fu, .int ap, .int pp, .ref tr, .int tc, .ref fz, .int nm])), (sl, .inl (cI, 1653, .inl sf)), (zs, .inl (cI, 8, .inl zf))]) (va_runS (As := [.long (k.toInt64), .long 0, .long 8]) (rest := []) ⟨hx, hb, hml, hown, hts⟩ k_1 (va_cwS 3 hts gX8_count_X8_in rfl rfl rfl (by decide +kernel) ⟨Nat.le_of_ble_eq_true rfl, Nat.le_of_ble_eq_true rfl⟩) (wp_S hP hK hD hN [] (by decide) rfl) rfl rfl hl.1 rfl (lv_room (Nat.le_of_ble_eq_true rfl)) dX8_count_6 ⟨Nat.le_of_ble_eq_true rfl, Nat.le_of_ble_eq_true rfl⟩) hP hD hS hA [] [0, 1, 2] rfl rfl (by decide) (by decide) (fun r_1 u_1 H locs hw_1 hP hD hS => ?_)
  clear k_1
  have hP : va_P D kl [(h, .inr (7, [.ref sl, .int na, .ref zs, .ref ln, .ref ir, .ref tk, .int su, .int le, .ref tb, .int fu, .int ap, .int pp, .ref tr, .int tc, .ref fz, .int nm])), (sl, .inl (cI, 1653, .inl sf)), (zs, .inl (cI, 8, .inl zf))] H := hP
  have hD : va_D A [(h, .inr (7, [.ref sl, .int na, .ref zs, .ref ln, .ref ir, .ref tk, .int su, .int le, .ref tb, .int fu, .int ap, .int pp, .ref tr, .int tc, .ref fz, .int nm])), (sl, .inl (cI, 1653, .inl sf)), (zs, .inl (cI, 8, .inl zf))] := hD
  have c1_0 := hw_1
  rcases c1_0 with ⟨e_1, f_1⟩ | ⟨e_1, f_1⟩
  · subst e_1
    have f_1 : (0 : Int) ≤ k.toInt ∧ k.toInt ≤ (8 : Int) := by
      have h8 := f_1
      try simp only [zl_of] at h8
      exact h8
    refine lv_if_ne (tgt := 15) hx hb dX8_count_9 (by decide) (fun _ => ?_) (fun c9 => absurd c9 (by decide))
    refine lv_iconst (v := 0) hx hb dX8_count_15 (by decide) ?_
    refine lv_istore_n (lv' := [(2, .int 0), (0, .ref h), (1, .int k)]) hx hb dX8_count_16 rfl hl (by decide) rfl (fun ls hl => ?_)
    refine lv_iload_n hx hb dX8_count_17 rfl (lv_at hl 2 rfl) ?_
    by_cases f_2 : k.toInt < 0 ∨ 7 < k.toInt
    · refine lv_tableOut (tgt := 147) hx hb dX8_count_18 f_2 (by decide) ?_
      refine lv_aload_n hx hb dX8_count_147 rfl (lv_at hl 1 rfl) ?_
      refine va_get (D := D) (ci := 7) (v := .int le) (C := RX8) (T := TX8) (N := 16) hx hb hts (fun _ h => List.mem_cons_of_mem _ (List.mem_append_right _ h)) hown hK hP 0 rfl rfl 7 (by decide) (hts (.fieldLink RX8 58 "WinterWalkModel" "length" "I") (List.mem_of_getElem? (i := 6) rfl)) (fun _ h9 => h9) rfl dX8_count_148 ?_
      exact wr_i (v := le) hx hb hr hlocks hS () (by trivial) (hP.sub [0, 1, 2] rfl) (hD.sub [0, 1, 2] (by decide) rfl) dX8_count_151
    · rcases (show k.toInt = 0 ∨ k.toInt = 1 ∨ k.toInt = 2 ∨ k.toInt = 3 ∨ k.toInt = 4 ∨ k.toInt = 5 ∨ k.toInt = 6 ∨ k.toInt = 7 by omega) with g_2 | g_2 | g_2 | g_2 | g_2 | g_2 | g_2 | g_2
      · refine lv_tableIn (off := 46) (tgt := 64) hx hb dX8_count_18 (by omega) (by omega) (by rw [g_2]; rfl) (by decide) ?_
        refine lv_iconst (v := 0) hx hb dX8_count_64 (by decide) ?_
        refine lv_istore_n (lv' := [(3, .int 0), (2, .int 0), (0, .ref h), (1, .int k)]) hx hb dX8_count_65 rfl hl (by decide) rfl (fun ls hl => ?_)
        have hL66 : ∀ (nf : Nat) (t3_c66 : Int32) (t2_c66 : Int32) (H : Heap) (locs : List Loc) (ls : Array Slot), (0 ≤ t3_c66.toInt ∧ t3_c66.toInt ≤ 8) → (8 - t3_c66.toInt).toNat < nf → va_P D kl [(h, .inr (7, [.ref sl, .int na, .ref zs, .ref ln, .ref ir, .ref tk, .int su, .int le, .ref tb, .int fu, .int ap, .int pp, .ref tr, .int tc, .ref fz, .int nm])), (sl, .inl (cI, 1653, .inl sf)), (zs, .inl (cI, 8, .inl zf))] H → va_D A [(h, .inr (7, [.ref sl, .int na, .ref zs, .ref ln, .ref ir, .ref tk, .int su, .int le, .ref tb, .int fu, .int ap, .int pp, .ref tr, .int tc, .ref fz, .int nm])), (sl, .inl (cI, 1653, .inl sf)), (zs, .inl (cI, 8, .inl zf))] → va_S A s.heap H locs → lv_has ls 4 [(3, .int t3_c66), (2, .int t2_c66), (0, .ref h), (1, .int k)] → W p l e ({ frames := 1, cells := 0, slots := 0, locals := 25 }) s m ([.ref h, .int k] : List Value).toArray below meth c H locs 0 0 (MQ below (va_Qi (fun (r : Int32) (_u : Unit) => True) (fun u t => wb D A ((fun _ => [(h, .inr (7, [.ref sl, .int na, .ref zs, .ref ln, .ref ir, .ref tk, .int su, .int le, .ref tb, .int fu, .int ap, .int pp, .ref tr, .int tc, .ref fz, .int nm])), (sl, .inl (cI, 1653, .inl sf)), (zs, .inl (cI, 8, .inl zf))]) u) t) A) ([.ref h, .int k] : List Value).toArray s 0 0 A) (F0 m 66 ls []) := by
          intro nf
          induction nf with
          | zero =>
            intro t3_c66 t2_c66 H locs ls i_t3_c66 hm
            exact absurd hm (Nat.not_lt_zero _)
          | succ nf ih66 =>
            intro t3_c66 t2_c66 H locs ls i_t3_c66 hm66 hP hD hS hl
            refine lv_iload_n hx hb dX8_count_66 rfl (lv_at hl 0 rfl) ?_
            refine lv_bipush (v := 8) hx hb dX8_count_67 (by decide) ?_
            refine lv_icmp_ge (tgt := 95) hx hb dX8_count_69 (by decide) (fun c_3 => ?_) (fun c_3 => ?_)
            · have f_3 : 8 ≤ t3_c66.toInt := zi_le c_3
              refine lv_iload_n hx hb dX8_count_95 rfl (lv_at hl 1 rfl) ?_
              exact wr_i (v := t2_c66) hx hb hr hlocks hS () (by trivial) (hP.sub [0, 1, 2] rfl) (hD.sub [0, 1, 2] (by decide) rfl) dX8_count_96
            · have f_3 : ¬ 8 ≤ t3_c66.toInt := zi_nle c_3
              refine lv_iload_n hx hb dX8_count_72 rfl (lv_at hl 1 rfl) ?_
              refine lv_aload_n hx hb dX8_count_73 rfl (lv_at hl 2 rfl) ?_
              refine va_get (D := D) (ci := 7) (v := .ref zs) (C := RX8) (T := TX8) (N := 16) hx hb hts (fun _ h => List.mem_cons_of_mem _ (List.mem_append_right _ h)) hown hK hP 0 rfl rfl 2 (by decide) (hts (.fieldLink RX8 13 "WinterWalkModel" "size" "[I") (List.mem_of_getElem? (i := 3) rfl)) (fun _ h9 => h9) rfl dX8_count_74 ?_
              refine lv_iload_n hx hb dX8_count_77 rfl (lv_at hl 0 rfl) ?_
              refine va_iald hx hb hK hP 2 0 rfl rfl (zi_in (by omega) (by omega)) dX8_count_78 ?_
              refine lv_topi (fun x_4 ex_4 => ?_)
              have f_4 : (-1) ≤ x_4.toInt ∧ x_4.toInt ≤ 40 := by rw [ex_4]; exact hz _ (zi_cl (by omega) (by omega))
              clear ex_4
              refine lv_if_ge (tgt := 86) hx hb dX8_count_79 (by decide) (fun c_5 => ?_) (fun c_5 => ?_)
              · have f_5 : 0 ≤ x_4.toInt := zi_le c_5
                refine lv_iconst (v := 1) hx hb dX8_count_86 (by decide) ?_
                refine lv_iadd hx hb dX8_count_87 ?_
                refine lv_topi (fun x_6 ex_6 => ?_)
                clear ex_6
                refine lv_istore_n (lv' := [(2, .int x_6), (3, .int t3_c66), (0, .ref h), (1, .int k)]) hx hb dX8_count_88 rfl hl (by decide) rfl (fun ls hl => ?_)
                obtain ⟨x_7, ex_7⟩ : ∃ y : Int32, y = t3_c66 + Int32.ofInt 1 := ⟨_, rfl⟩
                refine lv_iinc (v := x_7) (lv' := [(3, .int x_7), (2, .int x_6), (0, .ref h), (1, .int k)]) hx hb dX8_count_89 hl (k := 1) rfl ex_7.symm (by decide) rfl (fun ls hl => ?_)
                have ex_7 : x_7 = t3_c66 + 1 := ex_7
                have e_7 : x_7.toInt = t3_c66.toInt + 1 := by rw [ex_7]; exact zi_add (rfl) (by decide) (by omega) (by omega)
                clear ex_7
                refine lv_goto (tgt := 66) hx hb dX8_count_92 (by decide) ?_
                exact ih66 x_7 x_6 _ _ _ (show 0 ≤ x_7.toInt ∧ x_7.toInt ≤ 8 from by omega) (by omega) (hP.sub [0, 1, 2] rfl) (hD.sub [0, 1, 2] (by decide) rfl) hS (lv_sub hl [0, 1, 2, 3] rfl)
              · have f_5 : ¬ 0 ≤ x_4.toInt := zi_nle c_5
                refine lv_iconst (v := 0) hx hb dX8_count_82 (by decide) ?_
                refine lv_goto (tgt := 87) hx hb dX8_count_83 (by decide) ?_
                refine lv_iadd hx hb dX8_count_87 ?_
                refine lv_topi (fun x_8 ex_8 => ?_)
                clear ex_8
                refine lv_istore_n (lv' := [(2, .int x_8), (3, .int t3_c66), (0, .ref h), (1, .int k)]) hx hb dX8_count_88 rfl hl (by decide) rfl (fun ls hl => ?_)
                obtain ⟨x_9, ex_9⟩ : ∃ y : Int32, y = t3_c66 + Int32.ofInt 1 := ⟨_, rfl⟩
                refine lv_iinc (v := x_9) (lv' := [(3, .int x_9), (2, .int x_8), (0, .ref h), (1, .int k)]) hx hb dX8_count_89 hl (k := 1) rfl ex_9.symm (by decide) rfl (fun ls hl => ?_)
                have ex_9 : x_9 = t3_c66 + 1 := ex_9
                have e_9 : x_9.toInt = t3_c66.toInt + 1 := by rw [ex_9]; exact zi_add (rfl) (by decide) (by omega) (by omega)
                clear ex_9
                refine lv_goto (tgt := 66) hx hb dX8_count_92 (by decide) ?_
                exact ih66 x_9 x_8 _ _ _ (show 0 ≤ x_9.toInt ∧ x_9.toInt ≤ 8 from by omega) (by omega) (hP.sub [0, 1, 2] rfl) (hD.sub [0, 1, 2] (by decide) rfl) hS (lv_sub hl [0, 1, 2, 3] rfl)
        exact hL66 (((8 - (0 : Int32).toInt).toNat) + 1) 0 0 _ _ _ (show 0 ≤ 0 ∧ 0 ≤ 8 from by omega) (Nat.lt_succ_self _) (hP.sub [0, 1, 2] rfl) (hD.sub [0, 1, 2] (by decide) rfl) hS (lv_sub hl [0, 1, 2, 3] rfl)
      · refine lv_tableIn (off := 79) (tgt := 97) hx hb dX8_count_18 (by omega) (by omega) (by rw [g_2]; rfl) (by decide) ?_
        refine lv_aload_n hx hb dX8_count_97 rfl (lv_at hl 1 rfl) ?_
        refine va_get (D := D) (ci := 7) (v := .ref sl) (C := RX8) (T := TX8) (N := 16) hx hb hts (fun _ h => List.mem_cons_of_mem _ (List.mem_append_right _ h)) hown hK hP 0 rfl rfl 0 (by decide) (hts (.fieldLink RX8 7 "WinterWalkModel" "slot" "[I") (List.mem_of_getElem? (i := 4) rfl)) (fun _ h9 => h9) rfl dX8_count_98 ?_
        refine lv_iconst (v := 1) hx hb dX8_count_101 (by decide) ?_
        refine va_iald hx hb hK hP 1 0 rfl rfl (zi_in (by decide) (by decide)) dX8_count_102 ?_
        refine lv_topi (fun x_10 ex_10 => ?_)
        have f_10 : 0 ≤ x_10.toInt ∧ x_10.toInt ≤ 8 := by rw [ex_10]; exact si_v hsi (s := 0) (by decide) (by omega)
        have g_10 : x_10.toInt = v0 := by rw [ex_10]; exact hsi.2
        exact wr_i (v := x_10) hx hb hr hlocks hS () (by trivial) (hP.sub [0, 1, 2] rfl) (hD.sub [0, 1, 2] (by decide) rfl) dX8_count_103
      · refine lv_tableIn (off := 86) (tgt := 104) hx hb dX8_count_18 (by omega) (by omega) (by rw [g_2]; rfl) (by decide) ?_
        refine lv_aload_n hx hb dX8_count_104 rfl (lv_at hl 1 rfl) ?_
        refine va_get (D := D) (ci := 7) (v := .ref sl) (C := RX8) (T := TX8) (N := 16) hx hb hts (fun _ h => List.mem_cons_of_mem _ (List.mem_append_right _ h)) hown hK hP 0 rfl rfl 0 (by decide) (hts (.fieldLink RX8 7 "WinterWalkModel" "slot" "[I") (List.mem_of_getElem? (i := 4) rfl)) (fun _ h9 => h9) rfl dX8_count_105 ?_
        refine lv_iconst (v := 3) hx hb dX8_count_108 (by decide) ?_
        refine va_iald hx hb hK hP 1 0 rfl rfl (zi_in (by decide) (by decide)) dX8_count_109 ?_
        refine lv_topi (fun x_11 ex_11 => ?_)
        exact wr_i (v := x_11) hx hb hr hlocks hS () (by trivial) (hP.sub [0, 1, 2] rfl) (hD.sub [0, 1, 2] (by decide) rfl) dX8_count_110
      · refine lv_tableIn (off := 93) (tgt := 111) hx hb dX8_count_18 (by omega) (by omega) (by rw [g_2]; rfl) (by decide) ?_
        refine lv_aload_n hx hb dX8_count_111 rfl (lv_at hl 1 rfl) ?_
        refine va_get (D := D) (ci := 7) (v := .ref sl) (C := RX8) (T := TX8) (N := 16) hx hb hts (fun _ h => List.mem_cons_of_mem _ (List.mem_append_right _ h)) hown hK hP 0 rfl rfl 0 (by decide) (hts (.fieldLink RX8 7 "WinterWalkModel" "slot" "[I") (List.mem_of_getElem? (i := 4) rfl)) (fun _ h9 => h9) rfl dX8_count_112 ?_
        refine lv_iconst (v := 2) hx hb dX8_count_115 (by decide) ?_
        refine va_iald hx hb hK hP 1 0 rfl rfl (zi_in (by decide) (by decide)) dX8_count_116 ?_
        refine lv_topi (fun x_12 ex_12 => ?_)
        have f_12 : 0 ≤ x_12.toInt ∧ x_12.toInt ≤ 3 := by rw [ex_12]; exact si_w hsi (s := 0) (by decide) (by omega)
        exact wr_i (v := x_12) hx hb hr hlocks hS () (by trivial) (hP.sub [0, 1, 2] rfl) (hD.sub [0, 1, 2] (by decide) rfl) dX8_count_117
      · refine lv_tableIn (off := 100) (tgt := 118) hx hb dX8_count_18 (by omega) (by omega) (by rw [g_2]; rfl) (by decide) ?_
        refine lv_aload_n hx hb dX8_count_118 rfl (lv_at hl 1 rfl) ?_
        refine va_get (D := D) (ci := 7) (v := .ref sl) (C := RX8) (T := TX8) (N := 16) hx hb hts (fun _ h => List.mem_cons_of_mem _ (List.mem_append_right _ h)) hown hK hP 0 rfl rfl 0 (by decide) (hts (.fieldLink RX8 7 "WinterWalkModel" "slot" "[I") (List.mem_of_getElem? (i := 4) rfl)) (fun _ h9 => h9) rfl dX8_count_119 ?_
        refine lv_bipush (v := 54) hx hb dX8_count_122 (by decide) ?_
        refine va_iald hx hb hK hP 1 0 rfl rfl (zi_in (by decide) (by decide)) dX8_count_124 ?_
        refine lv_topi (fun x_13 ex_13 => ?_)
        exact wr_i (v := x_13) hx hb hr hlocks hS () (by trivial) (hP.sub [0, 1, 2] rfl) (hD.sub [0, 1, 2] (by decide) rfl) dX8_count_125
      · refine lv_tableIn (off := 108) (tgt := 126) hx hb dX8_count_18 (by omega) (by omega) (by rw [g_2]; rfl) (by decide) ?_
        refine lv_aload_n hx hb dX8_count_126 rfl (lv_at hl 1 rfl) ?_
        refine va_get (D := D) (ci := 7) (v := .ref sl) (C := RX8) (T := TX8) (N := 16) hx hb hts (fun _ h => List.mem_cons_of_mem _ (List.mem_append_right _ h)) hown hK hP 0 rfl rfl 0 (by decide) (hts (.fieldLink RX8 7 "WinterWalkModel" "slot" "[I") (List.mem_of_getElem? (i := 4) rfl)) (fun _ h9 => h9) rfl dX8_count_127 ?_
        refine lv_bipush (v := 55) hx hb dX8_count_130 (by decide) ?_
        refine va_iald hx hb hK hP 1 0 rfl rfl (zi_in (by decide) (by decide)) dX8_count_132 ?_
        refine lv_topi (fun x_14 ex_14 => ?_)
        exact wr_i (v := x_14) hx hb hr hlocks hS () (by trivial) (hP.sub [0, 1, 2] rfl) (hD.sub [0, 1, 2] (by decide) rfl) dX8_count_133
      · refine lv_tableIn (off := 116) (tgt := 134) hx hb dX8_count_18 (by omega) (by omega) (by rw [g_2]; rfl) (by decide) ?_
        refine lv_aload_n hx hb dX8_count_134 rfl (lv_at hl 1 rfl) ?_
        refine va_get (D := D) (ci := 7) (v := .ref sl) (C := RX8) (T := TX8) (N := 16) hx hb hts (fun _ h => List.mem_cons_of_mem _ (List.mem_append_right _ h)) hown hK hP 0 rfl rfl 0 (by decide) (hts (.fieldLink RX8 7 "WinterWalkModel" "slot" "[I") (List.mem_of_getElem? (i := 4) rfl)) (fun _ h9 => h9) rfl dX8_count_135 ?_
        refine lv_bipush (v := 56) hx hb dX8_count_138 (by decide) ?_
        refine va_iald hx hb hK hP 1 0 rfl rfl (zi_in (by decide) (by decide)) dX8_count_140 ?_
        refine lv_topi (fun x_15 ex_15 => ?_)
        exact wr_i (v := x_15) hx hb hr hlocks hS () (by trivial) (hP.sub [0, 1, 2] rfl) (hD.sub [0, 1, 2] (by decide) rfl) dX8_count_141
      · refine lv_tableIn (off := 124) (tgt := 142) hx hb dX8_count_18 (by omega) (by omega) (by rw [g_2]; rfl) (by decide) ?_
        refine lv_aload_n hx hb dX8_count_142 rfl (lv_at hl 1 rfl) ?_
        refine va_get (D := D) (ci := 7) (v := .int na) (C := RX8) (T := TX8) (N := 16) hx hb hts (fun _ h => List.mem_cons_of_mem _ (List.mem_append_right _ h)) hown hK hP 0 rfl rfl 1 (by decide) (hts (.fieldLink RX8 118 "WinterWalkModel" "acts" "I") (List.mem_of_getElem? (i := 5) rfl)) (fun _ h9 => h9) rfl dX8_count_143 ?_
        exact wr_i (v := na) hx hb hr hlocks hS () (by trivial) (hP.sub [0, 1, 2] rfl) (hD.sub [0, 1, 2] (by decide) rfl) dX8_count_146
  · subst e_1
    have f_1 : ¬ ((0 : Int) ≤ k.toInt ∧ k.toInt ≤ (8 : Int)) := by
      have h8 := f_1
      try simp only [zl_of] at h8
      exact h8
    refine lv_if_ne (tgt := 15) hx hb dX8_count_9 (by decide) (fun c9 => absurd (by decide) c9) (fun _ => ?_)
    refine lv_ldc (v := (-1000001)) hx hb hown (hts (.constant RX8 48 (-1000001)) (List.mem_of_getElem? (i := 2) rfl)) dX8_count_12 ?_
    exact wr_i (v := (-1000001)) hx hb hr hlocks hS () (by trivial) (hP.sub [0, 1, 2] rfl) (hD.sub [0, 1, 2] (by decide) rfl) dX8_count_14
set_option maxHeartbeats 4000000 in
set_option maxRecDepth 100000 in
theorem g_X8_status (l : Launch) (D : va_G) (cI cB cQ : ClassId) (sz : Nat) (h : Nat) (sl : Nat) (zs : Nat) (ln : Nat) (ir : Nat) (tk : Nat) (tb : Nat) (tr : Nat) (fz : Nat) (na : Int32) (su : Int32) (le : Int32) (fu : Int32) (ap : Int32) (pp : Int32) (tc : Int32) (nm : Int32) : mi l yX8_status wsX8_status ({ frames := 0, cells := 0, slots := 0, locals := 0 }) D cI cB cQ [.ref h] sz [(h, .inr (7, [.ref sl, .int na, .ref zs, .ref ln, .ref ir, .ref tk, .int su, .int le, .ref tb, .int fu, .int ap, .int pp, .ref tr, .int tc, .ref fz, .int nm]))] (fun (r : Int32) (_u : Unit) => True) (fun _ => [(h, .inr (7, [.ref sl, .int na, .ref zs, .ref ln, .ref ir, .ref tk, .int su, .int le, .ref tb, .int fu, .int ap, .int pp, .ref tr, .int tc, .ref fz, .int nm]))]) 0 0 := by
  refine wm_i (cc := cX8_status) (maxL := 1) (ret := (some .int)) (by decide) rfl (Nat.le_of_ble_eq_true rfl) ?_
  intro p e s m below meth c A ls hx hb hr hml hown hts hlocks hin hP hK hD hN hA hl hS
  have hown : s.vm.findClass RX8 = some m.cls := hown
  have hl : lv_has ls 1 [(0, .ref h)] := hl
  change W p l e ({ frames := 0, cells := 0, slots := 0, locals := 0 }) s m ([.ref h] : List Value).toArray below meth c s.heap [] 0 0 (MQ below (va_Qi (fun (r : Int32) (_u : Unit) => True) (fun u t => wb D A ((fun _ => [(h, .inr (7, [.ref sl, .int na, .ref zs, .ref ln, .ref ir, .ref tk, .int su, .int le, .ref tb, .int fu, .int ap, .int pp, .ref tr, .int tc, .ref fz, .int nm]))]) u) t) A) ([.ref h] : List Value).toArray s 0 0 A) (F0 m 0 ls [])
  refine lv_aload_n hx hb dX8_status_0 rfl (lv_at hl 0 rfl) ?_
  refine va_get (D := D) (ci := 7) (v := .int su) (C := RX8) (T := TX8) (N := 16) hx hb hts (fun _ h => List.mem_cons_of_mem _ (List.mem_append_right _ h)) hown hK hP 0 rfl rfl 6 (by decide) (hts (.fieldLink RX8 35 "WinterWalkModel" "status" "I") (List.mem_of_getElem? (i := 1) rfl)) (fun _ h9 => h9) rfl dX8_status_1 ?_
  exact wr_i (v := su) hx hb hr hlocks hS () (by trivial) (hP.sub [0] rfl) (hD.sub [0] (by decide) rfl) dX8_status_4
