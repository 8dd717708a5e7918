set_option maxHeartbeats 4000000 in
set_option maxRecDepth 100000 in
theorem f_X8_copies0 (l : Launch) (D : va_G) (cI cB cQ : ClassId) (sz : Nat) (h : Nat) (sl : Nat) (zs : Nat) (ln : Nat) (ir : Nat) (tk : Nat) (tb : Nat) (tr : Nat) (fz : Nat) (na : Int32) (su : Int32) (le : Int32) (fu : Int32) (ap : Int32) (pp : Int32) (tc : Int32) (nm : Int32) (a : Int32) (sf : Nat → Int32) (v0 : Int) (hsi : SI sf v0) (h_a : 1 ≤ a.toInt ∧ a.toInt ≤ 28) : mv l yX8_copies wsX8_copies ({ frames := 0, cells := 0, slots := 0, locals := 0 }) D cI cB cQ [.ref h, .int a, .int 0] sz [(h, .inr (7, [.ref sl, .int na, .ref zs, .ref ln, .ref ir, .ref tk, .int su, .int le, .ref tb, .int fu, .int ap, .int pp, .ref tr, .int tc, .ref fz, .int nm])), (sl, .inl (cI, 1653, .inl sf))] (fun (u : (Nat → Int32)) => (∀ q : Nat, q < 57 → u q = sf (57 * a.toInt.toNat + q)) ∧ (FRM (0) (57) sf u) ∧ (SI u ((u 1).toInt))) (fun u => [(h, .inr (7, [.ref sl, .int na, .ref zs, .ref ln, .ref ir, .ref tk, .int su, .int le, .ref tb, .int fu, .int ap, .int pp, .ref tr, .int tc, .ref fz, .int nm])), (sl, .inl (cI, 1653, .inl u))]) 0 0 := by
  refine wm_v (cc := cX8_copies) (maxL := 4) (ret := none) (by decide) rfl (Nat.le_of_ble_eq_true rfl) ?_
  intro p e s m below meth c A ls hx hb hr hml hown hts hlocks hin hP hK hD hN hA hl hS
  have hown : s.vm.findClass RX8 = some m.cls := hown
  have hl : lv_has ls 4 [(0, .ref h), (1, .int a), (2, .int 0)] := hl
  change W p l e ({ frames := 0, cells := 0, slots := 0, locals := 0 }) s m ([.ref h, .int a, .int 0] : List Value).toArray below meth c s.heap [] 0 0 (MQ below (va_Qv (fun (u : (Nat → Int32)) => (∀ q : Nat, q < 57 → u q = sf (57 * a.toInt.toNat + q)) ∧ (FRM (0) (57) sf u) ∧ (SI u ((u 1).toInt))) (fun u t => wb D A ((fun u => [(h, .inr (7, [.ref sl, .int na, .ref zs, .ref ln, .ref ir, .ref tk, .int su, .int le, .ref tb, .int fu, .int ap, .int pp, .ref tr, .int tc, .ref fz, .int nm])), (sl, .inl (cI, 1653, .inl u))]) u) t) A) ([.ref h, .int a, .int 0] : List Value).toArray s 0 0 A) (F0 m 0 ls [])
  refine lv_iconst (v := 0) hx hb dX8_copies_0 (by decide) ?_
  refine lv_istore_n (lv' := [(3, .int 0), (0, .ref h), (1, .int a), (2, .int 0)]) hx hb dX8_copies_1 rfl hl (by decide) rfl (fun ls hl => ?_)
  have hL2 : ∀ (nf : Nat) (t3_c2 : Int32) (g0_c2 : Nat → Int32) (H : Heap) (locs : List Loc) (ls : Array Slot), (0 ≤ t3_c2.toInt ∧ t3_c2.toInt ≤ 57) → (SI g0_c2 ((g0_c2 1).toInt)) → (∀ q : Nat, (q : Int) < t3_c2.toInt → g0_c2 q = sf (57 * a.toInt.toNat + q)) → (FRM (0) (57) sf g0_c2) → (57 - t3_c2.toInt).toNat < nf → va_P D kl [(h, .inr (7, [.ref sl, .int na, .ref zs, .ref ln, .ref ir, .ref tk, .int su, .int le, .ref tb, .int fu, .int ap, .int pp, .ref tr, .int tc, .ref fz, .int nm])), (sl, .inl (cI, 1653, .inl g0_c2))] H → va_D A [(h, .inr (7, [.ref sl, .int na, .ref zs, .ref ln, .ref ir, .ref tk, .int su, .int le, .ref tb, .int fu, .int ap, .int pp, .ref tr, .int tc, .ref fz, .int nm])), (sl, .inl (cI, 1653, .inl g0_c2))] → va_S A s.heap H locs → lv_has ls 4 [(3, .int t3_c2), (0, .ref h), (1, .int a), (2, .int 0)] → W p l e ({ frames := 0, cells := 0, slots := 0, locals := 0 }) s m ([.ref h, .int a, .int 0] : List Value).toArray below meth c H locs 0 0 (MQ below (va_Qv (fun (u : (Nat → Int32)) => (∀ q : Nat, q < 57 → u q = sf (57 * a.toInt.toNat + q)) ∧ (FRM (0) (57) sf u) ∧ (SI u ((u 1).toInt))) (fun u t => wb D A ((fun u => [(h, .inr (7, [.ref sl, .int na, .ref zs, .ref ln, .ref ir, .ref tk, .int su, .int le, .ref tb, .int fu, .int ap, .int pp, .ref tr, .int tc, .ref fz, .int nm])), (sl, .inl (cI, 1653, .inl u))]) u) t) A) ([.ref h, .int a, .int 0] : List Value).toArray s 0 0 A) (F0 m 2 ls []) := by
    intro nf
    induction nf with
    | zero =>
      intro t3_c2 g0_c2 H locs ls i_t3_c2 ha_g0_c2 q0_c2 hf_c2 hm
      exact absurd hm (Nat.not_lt_zero _)
    | succ nf ih2 =>
      intro t3_c2 g0_c2 H locs ls i_t3_c2 ha_g0_c2 q0_c2 hf_c2 hm2 hP hD hS hl
      refine lv_iload_n hx hb dX8_copies_2 rfl (lv_at hl 0 rfl) ?_
      refine lv_bipush (v := 57) hx hb dX8_copies_3 (by decide) ?_
      refine lv_icmp_ge (tgt := 36) hx hb dX8_copies_5 (by decide) (fun c_1 => ?_) (fun c_1 => ?_)
      · have f_1 : 57 ≤ t3_c2.toInt := zi_le c_1
        exact wr_v hx hb hr hlocks hS g0_c2 (by exact ⟨show ∀ q : Nat, q < 57 → g0_c2 q = sf (57 * a.toInt.toNat + q) from fun q hq => q0_c2 q (by omega), show FRM (0) (57) sf g0_c2 from hf_c2, SI.self ha_g0_c2⟩) (hP.sub [0, 1] rfl) (hD.sub [0, 1] (by decide) rfl) dX8_copies_36
      · have f_1 : ¬ 57 ≤ t3_c2.toInt := zi_nle c_1
        refine lv_aload_n hx hb dX8_copies_8 rfl (lv_at hl 1 rfl) ?_
        refine va_get (D := D) (ci := 7) (v := .ref sl) (C := RX8) (T := TX8) (N := 16) hx hb hts (fun _ h => List.mem_cons_of_mem _ (List.mem_append_right _ h)) hown hK hP 0 rfl rfl 0 (by decide) (hts (.fieldLink RX8 7 "WinterWalkModel" "slot" "[I") (List.mem_of_getElem? (i := 1) rfl)) (fun _ h9 => h9) rfl dX8_copies_9 ?_
        refine lv_iload_n hx hb dX8_copies_12 rfl (lv_at hl 3 rfl) ?_
        refine lv_bipush (v := 57) hx hb dX8_copies_13 (by decide) ?_
        refine lv_imul hx hb dX8_copies_15 ?_
        refine lv_topi (fun x_2 ex_2 => ?_)
        obtain rfl : x_2 = 0 := ex_2.trans (by decide)
        refine lv_iload_n hx hb dX8_copies_16 rfl (lv_at hl 0 rfl) ?_
        refine lv_iadd hx hb dX8_copies_17 ?_
        refine lv_topi (fun x_3 ex_3 => ?_)
        have e_3 : x_3.toInt = 0 + t3_c2.toInt := by rw [ex_3]; exact zi_add (by decide) (rfl) (by omega) (by omega)
        clear ex_3
        refine lv_aload_n hx hb dX8_copies_18 rfl (lv_at hl 1 rfl) ?_
        refine va_get (D := D) (ci := 7) (v := .ref sl) (C := RX8) (T := TX8) (N := 16) hx hb hts (fun _ h => List.mem_cons_of_mem _ (List.mem_append_right _ h)) hown hK hP 0 rfl rfl 0 (by decide) (hts (.fieldLink RX8 7 "WinterWalkModel" "slot" "[I") (List.mem_of_getElem? (i := 1) rfl)) (fun _ h9 => h9) rfl dX8_copies_19 ?_
        refine lv_iload_n hx hb dX8_copies_22 rfl (lv_at hl 2 rfl) ?_
        refine lv_bipush (v := 57) hx hb dX8_copies_23 (by decide) ?_
        refine lv_imul hx hb dX8_copies_25 ?_
        refine lv_topi (fun x_4 ex_4 => ?_)
        have e_4 : x_4.toInt = a.toInt * 57 := by rw [ex_4]; exact zi_mul (rfl) (by decide) (by omega) (by omega)
        clear ex_4
        refine lv_iload_n hx hb dX8_copies_26 rfl (lv_at hl 0 rfl) ?_
        refine lv_iadd hx hb dX8_copies_27 ?_
        refine lv_topi (fun x_5 ex_5 => ?_)
        have e_5 : x_5.toInt = x_4.toInt + t3_c2.toInt := by rw [ex_5]; exact zi_add (rfl) (rfl) (by omega) (by omega)
        clear ex_5
        refine va_iald hx hb hK hP 1 0 rfl rfl (zi_in (by omega) (by omega)) dX8_copies_28 ?_
        refine lv_topi (fun x_6 ex_6 => ?_)
        have f_6 := si_g ha_g0_c2 (i := x_5) (s := a.toInt) (k := t3_c2.toInt) (by omega) (by omega) (by omega)
        rw [← ex_6] at f_6
        refine va_iast hx hb hK hP hD hS 1 0 rfl rfl (zi_in (by omega) (by omega)) dX8_copies_29 (fun H locs hP hD hS => ?_)
        have hP : va_P D kl [(h, .inr (7, [.ref sl, .int na, .ref zs, .ref ln, .ref ir, .ref tk, .int su, .int le, .ref tb, .int fu, .int ap, .int pp, .ref tr, .int tc, .ref fz, .int nm])), (sl, .inl (cI, 1653, .inl (upd g0_c2 (x_3 : Int32).toNatClampNeg x_6)))] H := hP
        have hD : va_D A [(h, .inr (7, [.ref sl, .int na, .ref zs, .ref ln, .ref ir, .ref tk, .int su, .int le, .ref tb, .int fu, .int ap, .int pp, .ref tr, .int tc, .ref fz, .int nm])), (sl, .inl (cI, 1653, .inl (upd g0_c2 (x_3 : Int32).toNatClampNeg x_6)))] := hD
        have ha_7 : SI (upd g0_c2 (x_3 : Int32).toNatClampNeg x_6) (((upd g0_c2 (x_3 : Int32).toNatClampNeg x_6) 1).toInt) := ⟨sb_up ha_g0_c2.1 (by omega) (fun s0 a0 b0 e0 => by omega) (fun s0 a0 b0 e0 => by omega) (fun s0 k0 a0 b0 c0 d0 e0 => by omega), rfl⟩
        have hf_8 : FRM (0) (57) sf (upd g0_c2 (x_3 : Int32).toNatClampNeg x_6) := FRM.up hf_c2 (by omega)
        obtain ⟨x_9, ex_9⟩ : ∃ y : Int32, y = t3_c2 + Int32.ofInt 1 := ⟨_, rfl⟩
        refine lv_iinc (v := x_9) (lv' := [(3, .int x_9), (0, .ref h), (1, .int a), (2, .int 0)]) hx hb dX8_copies_30 hl (k := 0) rfl ex_9.symm (by decide) rfl (fun ls hl => ?_)
        have ex_9 : x_9 = t3_c2 + 1 := ex_9
        have e_9 : x_9.toInt = t3_c2.toInt + 1 := by rw [ex_9]; exact zi_add (rfl) (by decide) (by omega) (by omega)
        clear ex_9
        refine lv_goto (tgt := 2) hx hb dX8_copies_33 (by decide) ?_
        exact ih2 x_9 (upd g0_c2 (x_3 : Int32).toNatClampNeg x_6) _ _ _ (show 0 ≤ x_9.toInt ∧ x_9.toInt ≤ 57 from by omega) (SI.self ha_7) (fun q hq => zfm q0_c2 (by omega) (by omega) (by rw [ex_6]; exact zfm2 (fun q hq => hf_c2 q (by omega)) (by omega) (by omega) (by omega)) hq (by omega)) hf_8 (by omega) (hP.sub [0, 1] rfl) (hD.sub [0, 1] (by decide) rfl) hS (lv_sub hl [0, 1, 2, 3] rfl)
  exact hL2 (((57 - (0 : Int32).toInt).toNat) + 1) 0 sf _ _ _ (show 0 ≤ 0 ∧ 0 ≤ 57 from by omega) (SI.self hsi) (fun q hq => absurd hq (by have h7 : (0 : Int32).toInt = 0 := (by decide); omega)) FRM.refl (Nat.lt_succ_self _) (hP.sub [0, 1] rfl) (hD.sub [0, 1] (by decide) rfl) hS (lv_sub hl [0, 1, 2, 3] rfl)
set_option maxHeartbeats 4000000 in
set_option maxRecDepth 100000 in
theorem f_X8_known (l : Launch) (D : va_G) (cI cB cQ : ClassId) (sz : Nat) (h : Nat) (sl : Nat) (zs : Nat) (ln : Nat) (ir : Nat) (tk : Nat) (tb : Nat) (tr : Nat) (fz : Nat) (na : Int32) (su : Int32) (le : Int32) (fu : Int32) (ap : Int32) (pp : Int32) (tc : Int32) (nm : Int32) (sf : Nat → Int32) (v0 : Int) (hsi : SI sf v0) (h_na : 0 ≤ na.toInt ∧ na.toInt ≤ 24) (h_le : 0 ≤ le.toInt ∧ le.toInt ≤ 120) (h_ap : 0 ≤ ap.toInt ∧ ap.toInt ≤ 120) (h_tc : 0 ≤ tc.toInt ∧ tc.toInt ≤ 16) (h_pp : 0 ≤ pp.toInt ∧ pp.toInt ≤ 120) (h_ra : KA sf na.toInt (kr sf 0)) : mv l yX8_known wsX8_known ({ frames := 1, cells := 0, slots := 0, locals := 23 }) D cI cB cQ [.ref h] sz [(h, .inr (7, [.ref sl, .int na, .ref zs, .ref ln, .ref ir, .ref tk, .int su, .int le, .ref tb, .int fu, .int ap, .int pp, .ref tr, .int tc, .ref fz, .int nm])), (sl, .inl (cI, 1653, .inl sf))] (fun (u : (Nat → Int32) × Int32) => (KA u.1 u.2.toInt (kr sf 0)) ∧ (FRM (171) (1539) sf u.1) ∧ (0 ≤ u.2.toInt ∧ u.2.toInt ≤ 24) ∧ (SI u.1 v0)) (fun u => [(h, .inr (7, [.ref sl, .int u.2, .ref zs, .ref ln, .ref ir, .ref tk, .int su, .int le, .ref tb, .int fu, .int ap, .int pp, .ref tr, .int tc, .ref fz, .int nm])), (sl, .inl (cI, 1653, .inl u.1))]) 0 0 := by
  refine wm_v (cc := cX8_known) (maxL := 2) (ret := none) (by decide) rfl (Nat.le_of_ble_eq_true rfl) ?_
  intro p e s m below meth c A ls hx hb hr hml hown hts hlocks hin hP hK hD hN hA hl hS
  have hown : s.vm.findClass RX8 = some m.cls := hown
  have hl : lv_has ls 2 [(0, .ref h)] := hl
  change W p l e ({ frames := 1, cells := 0, slots := 0, locals := 23 }) s m ([.ref h] : List Value).toArray below meth c s.heap [] 0 0 (MQ below (va_Qv (fun (u : (Nat → Int32) × Int32) => (KA u.1 u.2.toInt (kr sf 0)) ∧ (FRM (171) (1539) sf u.1) ∧ (0 ≤ u.2.toInt ∧ u.2.toInt ≤ 24) ∧ (SI u.1 v0)) (fun u t => wb D A ((fun u => [(h, .inr (7, [.ref sl, .int u.2, .ref zs, .ref ln, .ref ir, .ref tk, .int su, .int le, .ref tb, .int fu, .int ap, .int pp, .ref tr, .int tc, .ref fz, .int nm])), (sl, .inl (cI, 1653, .inl u.1))]) u) t) A) ([.ref h] : List Value).toArray s 0 0 A) (F0 m 0 ls [])
  refine lv_aload_n hx hb dX8_known_0 rfl (lv_at hl 0 rfl) ?_
  refine va_get (D := D) (ci := 7) (v := .int na) (C := RX8) (T := TX8) (N := 16) hx hb hts (fun _ h => List.mem_cons_of_mem _ (List.mem_append_right _ h)) hown hK hP 0 rfl rfl 1 (by decide) (hts (.fieldLink RX8 118 "WinterWalkModel" "acts" "I") (List.mem_of_getElem? (i := 1) rfl)) (fun _ h9 => h9) rfl dX8_known_1 ?_
  refine lv_bipush (v := 24) hx hb dX8_known_4 (by decide) ?_
  refine lv_icmp_ne (tgt := 45) hx hb dX8_known_6 (by decide) (fun c_1 => ?_) (fun c_1 => ?_)
  · have f_1 : ¬ na.toInt = 24 := zi_ne c_1
    refine lv_aload_n hx hb dX8_known_45 rfl (lv_at hl 0 rfl) ?_
    refine lv_iconst (v := 0) hx hb dX8_known_46 (by decide) ?_
    refine lv_iconst (v := 3) hx hb dX8_known_47 (by decide) ?_
    refine lv_aload_n hx hb dX8_known_48 rfl (lv_at hl 0 rfl) ?_
    refine va_get (D := D) (ci := 7) (v := .int na) (C := RX8) (T := TX8) (N := 16) hx hb hts (fun _ h => List.mem_cons_of_mem _ (List.mem_append_right _ h)) hown hK hP 0 rfl rfl 1 (by decide) (hts (.fieldLink RX8 118 "WinterWalkModel" "acts" "I") (List.mem_of_getElem? (i := 1) rfl)) (fun _ h9 => h9) rfl dX8_known_49 ?_
    refine lv_iadd hx hb dX8_known_52 ?_
    refine lv_topi (fun x_2 ex_2 => ?_)
    have e_2 : x_2.toInt = 3 + na.toInt := by rw [ex_2]; exact zi_add (by decide) (rfl) (by omega) (by omega)
    clear ex_2
    have k_3 := (f_X8_copies l D cI cB cQ s.heap.size h sl zs ln ir tk tb tr fz na su le fu ap pp tc nm 0 x_2 sf v0 hsi ⟨by decide, by decide⟩ (by omega) (by have hk0 : (0 : Int32).toInt = 0 := (by decide); omega))
    refine wc_v (WC := [(h, .inr (7, [.ref sl, .int na, .ref zs, .ref ln, .ref ir, .ref tk, .int su, .int le, .ref tb, .int fu, .int ap, .int pp, .ref tr, .int tc, .ref fz, .int nm])), (sl, .inl (cI, 1653, .inl sf))]) (WR := []) (va_runV (As := [.int 0, .int x_2]) (rest := []) ⟨hx, hb, hml, hown, hts⟩ k_3 (cwV 2 hts gX8_known_X8_copies rfl rfl rfl (by decide +kernel) ⟨Nat.le_of_ble_eq_true rfl, Nat.le_of_ble_eq_true rfl⟩) (wp_V hP hK hD hN [0, 1] (by decide) rfl (ci := 7) rfl rfl) rfl rfl hl.1 rfl (lv_room (Nat.le_of_ble_eq_true rfl)) dX8_known_53 ⟨Nat.le_of_ble_eq_true rfl, Nat.le_of_ble_eq_true rfl⟩) hP hD hS hA [0, 1] [] rfl rfl (by decide) (by decide) (fun u_3 H locs hw_3 hP hD hS => ?_)
    clear k_3
    have hP : va_P D kl [(h, .inr (7, [.ref sl, .int na, .ref zs, .ref ln, .ref ir, .ref tk, .int su, .int le, .ref tb, .int fu, .int ap, .int pp, .ref tr, .int tc, .ref fz, .int nm])), (sl, .inl (cI, 1653, .inl u_3))] H := hP
    have hD : va_D A [(h, .inr (7, [.ref sl, .int na, .ref zs, .ref ln, .ref ir, .ref tk, .int su, .int le, .ref tb, .int fu, .int ap, .int pp, .ref tr, .int tc, .ref fz, .int nm])), (sl, .inl (cI, 1653, .inl u_3))] := hD
    obtain ⟨c3_0, c3_1, c3_2⟩ := hw_3
    have c3_0 : ∀ q : Nat, q < 57 → u_3 (57 * x_2.toInt.toNat + q) = sf (57 * (0 : Int).toNat + q) := c3_0
    have c3_1 : FRM ((57 * x_2.toInt)) ((57 * x_2.toInt + 57)) sf u_3 := c3_1
    have c3_2 : SI u_3 v0 := c3_2
    have hf_3 : FRM (171) (1539) sf u_3 := FRM.trans FRM.refl (FRM.sub c3_1 (by omega) (by omega))
    refine lv_aload_n hx hb dX8_known_56 rfl (lv_at hl 0 rfl) ?_
    refine lv_dup hx hb dX8_known_57 rfl ?_
    refine va_get (D := D) (ci := 7) (v := .int na) (C := RX8) (T := TX8) (N := 16) hx hb hts (fun _ h => List.mem_cons_of_mem _ (List.mem_append_right _ h)) hown hK hP 0 rfl rfl 1 (by decide) (hts (.fieldLink RX8 118 "WinterWalkModel" "acts" "I") (List.mem_of_getElem? (i := 1) rfl)) (fun _ h9 => h9) rfl dX8_known_58 ?_
    refine lv_iconst (v := 1) hx hb dX8_known_61 (by decide) ?_
    refine lv_iadd hx hb dX8_known_62 ?_
    refine lv_topi (fun x_4 ex_4 => ?_)
    have e_4 : x_4.toInt = na.toInt + 1 := by rw [ex_4]; exact zi_add (rfl) (by decide) (by omega) (by omega)
    clear ex_4
    refine va_put (D := D) (ci := 7) (v := .int x_4) (ty := .int) (C := RX8) (T := TX8) (N := 16) hx hb hts (fun _ h => List.mem_cons_of_mem _ (List.mem_append_right _ h)) tyX8 tyX8_ok nmX8 hown hK hP hD hS 0 rfl rfl 1 (by decide) (hts (.fieldLink RX8 118 "WinterWalkModel" "acts" "I") (List.mem_of_getElem? (i := 1) rfl)) (fun _ h9 => h9) rfl (by decide +kernel) rfl rfl (Nat.le_of_ble_eq_true rfl) dX8_known_63 (fun H locs hP hD hS => ?_)
    have hP : va_P D kl [(h, .inr (7, [.ref sl, .int x_4, .ref zs, .ref ln, .ref ir, .ref tk, .int su, .int le, .ref tb, .int fu, .int ap, .int pp, .ref tr, .int tc, .ref fz, .int nm])), (sl, .inl (cI, 1653, .inl u_3))] H := hP
    have hD : va_D A [(h, .inr (7, [.ref sl, .int x_4, .ref zs, .ref ln, .ref ir, .ref tk, .int su, .int le, .ref tb, .int fu, .int ap, .int pp, .ref tr, .int tc, .ref fz, .int nm])), (sl, .inl (cI, 1653, .inl u_3))] := hD
    exact wr_v hx hb hr hlocks hS (u_3, x_4) (by exact ⟨show KA u_3 x_4.toInt (kr sf 0) from KA.step h_ra hsi (n := na.toInt) (by omega) (by omega) (by omega) c3_0 c3_1 rfl, show FRM (171) (1539) sf u_3 from hf_3, show 0 ≤ (x_4 : Int32).toInt ∧ (x_4 : Int32).toInt ≤ 24 from by omega, c3_2⟩) (hP.sub [0, 1] rfl) (hD.sub [0, 1] (by decide) rfl) dX8_known_66
  · have f_1 : na.toInt = 24 := zi_eq c_1
    refine lv_iconst (v := 0) hx hb dX8_known_9 (by decide) ?_
    refine lv_istore_n (lv' := [(1, .int 0), (0, .ref h)]) hx hb dX8_known_10 rfl hl (by decide) rfl (fun ls hl => ?_)
    have hL11 : ∀ (nf : Nat) (t1_c11 : Int32) (g0_c11 : Nat → Int32) (H : Heap) (locs : List Loc) (ls : Array Slot), (0 ≤ t1_c11.toInt ∧ t1_c11.toInt ≤ 23) → (SI g0_c11 v0) → (KA g0_c11 24 (kr sf 0)) → (FRM (171) (1539) sf g0_c11) → (23 - t1_c11.toInt).toNat < nf → va_P D kl [(h, .inr (7, [.ref sl, .int na, .ref zs, .ref ln, .ref ir, .ref tk, .int su, .int le, .ref tb, .int fu, .int ap, .int pp, .ref tr, .int tc, .ref fz, .int nm])), (sl, .inl (cI, 1653, .inl g0_c11))] H → va_D A [(h, .inr (7, [.ref sl, .int na, .ref zs, .ref ln, .ref ir, .ref tk, .int su, .int le, .ref tb, .int fu, .int ap, .int pp, .ref tr, .int tc, .ref fz, .int nm])), (sl, .inl (cI, 1653, .inl g0_c11))] → va_S A s.heap H locs → lv_has ls 2 [(1, .int t1_c11), (0, .ref h)] → W p l e ({ frames := 1, cells := 0, slots := 0, locals := 23 }) s m ([.ref h] : List Value).toArray below meth c H locs 0 0 (MQ below (va_Qv (fun (u : (Nat → Int32) × Int32) => (KA u.1 u.2.toInt (kr sf 0)) ∧ (FRM (171) (1539) sf u.1) ∧ (0 ≤ u.2.toInt ∧ u.2.toInt ≤ 24) ∧ (SI u.1 v0)) (fun u t => wb D A ((fun u => [(h, .inr (7, [.ref sl, .int u.2, .ref zs, .ref ln, .ref ir, .ref tk, .int su, .int le, .ref tb, .int fu, .int ap, .int pp, .ref tr, .int tc, .ref fz, .int nm])), (sl, .inl (cI, 1653, .inl u.1))]) u) t) A) ([.ref h] : List Value).toArray s 0 0 A) (F0 m 11 ls []) := by
      intro nf
      induction nf with
      | zero =>
        intro t1_c11 g0_c11 H locs ls i_t1_c11 ha_g0_c11 q0_c11 hf_c11 hm
        exact absurd hm (Nat.not_lt_zero _)
      | succ nf ih11 =>
        intro t1_c11 g0_c11 H locs ls i_t1_c11 ha_g0_c11 q0_c11 hf_c11 hm11 hP hD hS hl
        refine lv_iload_n hx hb dX8_known_11 rfl (lv_at hl 0 rfl) ?_
        refine lv_bipush (v := 23) hx hb dX8_known_12 (by decide) ?_
        refine lv_icmp_ge (tgt := 35) hx hb dX8_known_14 (by decide) (fun c_5 => ?_) (fun c_5 => ?_)
        · have f_5 : 23 ≤ t1_c11.toInt := zi_le c_5
          refine lv_aload_n hx hb dX8_known_35 rfl (lv_at hl 1 rfl) ?_
          refine lv_dup hx hb dX8_known_36 rfl ?_
          refine va_get (D := D) (ci := 7) (v := .int na) (C := RX8) (T := TX8) (N := 16) hx hb hts (fun _ h => List.mem_cons_of_mem _ (List.mem_append_right _ h)) hown hK hP 0 rfl rfl 1 (by decide) (hts (.fieldLink RX8 118 "WinterWalkModel" "acts" "I") (List.mem_of_getElem? (i := 1) rfl)) (fun _ h9 => h9) rfl dX8_known_37 ?_
          refine lv_iconst (v := 1) hx hb dX8_known_40 (by decide) ?_
          refine lv_isub hx hb dX8_known_41 ?_
          refine lv_topi (fun x_6 ex_6 => ?_)
          have e_6 : x_6.toInt = na.toInt - 1 := by rw [ex_6]; exact zi_sub (rfl) (by decide) (by omega) (by omega)
          clear ex_6
          refine va_put (D := D) (ci := 7) (v := .int x_6) (ty := .int) (C := RX8) (T := TX8) (N := 16) hx hb hts (fun _ h => List.mem_cons_of_mem _ (List.mem_append_right _ h)) tyX8 tyX8_ok nmX8 hown hK hP hD hS 0 rfl rfl 1 (by decide) (hts (.fieldLink RX8 118 "WinterWalkModel" "acts" "I") (List.mem_of_getElem? (i := 1) rfl)) (fun _ h9 => h9) rfl (by decide +kernel) rfl rfl (Nat.le_of_ble_eq_true rfl) dX8_known_42 (fun H locs hP hD hS => ?_)
          have hP : va_P D kl [(h, .inr (7, [.ref sl, .int x_6, .ref zs, .ref ln, .ref ir, .ref tk, .int su, .int le, .ref tb, .int fu, .int ap, .int pp, .ref tr, .int tc, .ref fz, .int nm])), (sl, .inl (cI, 1653, .inl g0_c11))] H := hP
          have hD : va_D A [(h, .inr (7, [.ref sl, .int x_6, .ref zs, .ref ln, .ref ir, .ref tk, .int su, .int le, .ref tb, .int fu, .int ap, .int pp, .ref tr, .int tc, .ref fz, .int nm])), (sl, .inl (cI, 1653, .inl g0_c11))] := hD
          refine lv_aload_n hx hb dX8_known_45 rfl (lv_at hl 1 rfl) ?_
          refine lv_iconst (v := 0) hx hb dX8_known_46 (by decide) ?_
          refine lv_iconst (v := 3) hx hb dX8_known_47 (by decide) ?_
          refine lv_aload_n hx hb dX8_known_48 rfl (lv_at hl 1 rfl) ?_
          refine va_get (D := D) (ci := 7) (v := .int x_6) (C := RX8) (T := TX8) (N := 16) hx hb hts (fun _ h => List.mem_cons_of_mem _ (List.mem_append_right _ h)) hown hK hP 0 rfl rfl 1 (by decide) (hts (.fieldLink RX8 118 "WinterWalkModel" "acts" "I") (List.mem_of_getElem? (i := 1) rfl)) (fun _ h9 => h9) rfl dX8_known_49 ?_
          refine lv_iadd hx hb dX8_known_52 ?_
          refine lv_topi (fun x_7 ex_7 => ?_)
          have e_7 : x_7.toInt = 3 + x_6.toInt := by rw [ex_7]; exact zi_add (by decide) (rfl) (by omega) (by omega)
          clear ex_7
          have k_8 := (f_X8_copies l D cI cB cQ H.size h sl zs ln ir tk tb tr fz x_6 su le fu ap pp tc nm 0 x_7 g0_c11 v0 ha_g0_c11 ⟨by decide, by decide⟩ (by omega) (by have hk0 : (0 : Int32).toInt = 0 := (by decide); omega))
          refine wc_v (WC := [(h, .inr (7, [.ref sl, .int x_6, .ref zs, .ref ln, .ref ir, .ref tk, .int su, .int le, .ref tb, .int fu, .int ap, .int pp, .ref tr, .int tc, .ref fz, .int nm])), (sl, .inl (cI, 1653, .inl g0_c11))]) (WR := []) (va_runV (As := [.int 0, .int x_7]) (rest := []) ⟨hx, hb, hml, hown, hts⟩ k_8 (cwV 2 hts gX8_known_X8_copies rfl rfl rfl (by decide +kernel) ⟨Nat.le_of_ble_eq_true rfl, Nat.le_of_ble_eq_true rfl⟩) (wp_V hP hK hD hN [0, 1] (by decide) rfl (ci := 7) rfl rfl) rfl rfl hl.1 rfl (lv_room (Nat.le_of_ble_eq_true rfl)) dX8_known_53 ⟨Nat.le_of_ble_eq_true rfl, Nat.le_of_ble_eq_true rfl⟩) hP hD hS hA [0, 1] [] rfl rfl (by decide) (by decide) (fun u_8 H locs hw_8 hP hD hS => ?_)
          clear k_8
          have hP : va_P D kl [(h, .inr (7, [.ref sl, .int x_6, .ref zs, .ref ln, .ref ir, .ref tk, .int su, .int le, .ref tb, .int fu, .int ap, .int pp, .ref tr, .int tc, .ref fz, .int nm])), (sl, .inl (cI, 1653, .inl u_8))] H := hP
          have hD : va_D A [(h, .inr (7, [.ref sl, .int x_6, .ref zs, .ref ln, .ref ir, .ref tk, .int su, .int le, .ref tb, .int fu, .int ap, .int pp, .ref tr, .int tc, .ref fz, .int nm])), (sl, .inl (cI, 1653, .inl u_8))] := hD
          obtain ⟨c8_0, c8_1, c8_2⟩ := hw_8
          have c8_0 : ∀ q : Nat, q < 57 → u_8 (57 * x_7.toInt.toNat + q) = g0_c11 (57 * (0 : Int).toNat + q) := c8_0
          have c8_1 : FRM ((57 * x_7.toInt)) ((57 * x_7.toInt + 57)) g0_c11 u_8 := c8_1
          have c8_2 : SI u_8 v0 := c8_2
          have hf_8 : FRM (171) (1539) sf u_8 := FRM.trans hf_c11 (FRM.sub c8_1 (by omega) (by omega))
          refine lv_aload_n hx hb dX8_known_56 rfl (lv_at hl 1 rfl) ?_
          refine lv_dup hx hb dX8_known_57 rfl ?_
          refine va_get (D := D) (ci := 7) (v := .int x_6) (C := RX8) (T := TX8) (N := 16) hx hb hts (fun _ h => List.mem_cons_of_mem _ (List.mem_append_right _ h)) hown hK hP 0 rfl rfl 1 (by decide) (hts (.fieldLink RX8 118 "WinterWalkModel" "acts" "I") (List.mem_of_getElem? (i := 1) rfl)) (fun _ h9 => h9) rfl dX8_known_58 ?_
          refine lv_iconst (v := 1) hx hb dX8_known_61 (by decide) ?_
          refine lv_iadd hx hb dX8_known_62 ?_
          refine lv_topi (fun x_9 ex_9 => ?_)
          have e_9 : x_9.toInt = x_6.toInt + 1 := by rw [ex_9]; exact zi_add (rfl) (by decide) (by omega) (by omega)
          clear ex_9
          refine va_put (D := D) (ci := 7) (v := .int x_9) (ty := .int) (C := RX8) (T := TX8) (N := 16) hx hb hts (fun _ h => List.mem_cons_of_mem _ (List.mem_append_right _ h)) tyX8 tyX8_ok nmX8 hown hK hP hD hS 0 rfl rfl 1 (by decide) (hts (.fieldLink RX8 118 "WinterWalkModel" "acts" "I") (List.mem_of_getElem? (i := 1) rfl)) (fun _ h9 => h9) rfl (by decide +kernel) rfl rfl (Nat.le_of_ble_eq_true rfl) dX8_known_63 (fun H locs hP hD hS => ?_)
          have hP : va_P D kl [(h, .inr (7, [.ref sl, .int x_9, .ref zs, .ref ln, .ref ir, .ref tk, .int su, .int le, .ref tb, .int fu, .int ap, .int pp, .ref tr, .int tc, .ref fz, .int nm])), (sl, .inl (cI, 1653, .inl u_8))] H := hP
          have hD : va_D A [(h, .inr (7, [.ref sl, .int x_9, .ref zs, .ref ln, .ref ir, .ref tk, .int su, .int le, .ref tb, .int fu, .int ap, .int pp, .ref tr, .int tc, .ref fz, .int nm])), (sl, .inl (cI, 1653, .inl u_8))] := hD
          exact wr_v hx hb hr hlocks hS (u_8, x_9) (by exact ⟨show KA u_8 x_9.toInt (kr sf 0) from KA.step (KA.less q0_c11 (by omega)) ha_g0_c11 (n := x_6.toInt) (by omega) (by omega) (by omega) c8_0 c8_1 (kr_frm hsi hf_c11 (by omega) (by omega)), show FRM (171) (1539) sf u_8 from hf_8, show 0 ≤ (x_9 : Int32).toInt ∧ (x_9 : Int32).toInt ≤ 24 from by omega, c8_2⟩) (hP.sub [0, 1] rfl) (hD.sub [0, 1] (by decide) rfl) dX8_known_66
        · have f_5 : ¬ 23 ≤ t1_c11.toInt := zi_nle c_5
          refine lv_aload_n hx hb dX8_known_17 rfl (lv_at hl 1 rfl) ?_
          refine lv_iconst (v := 3) hx hb dX8_known_18 (by decide) ?_
          refine lv_iload_n hx hb dX8_known_19 rfl (lv_at hl 0 rfl) ?_
          refine lv_iadd hx hb dX8_known_20 ?_
          refine lv_topi (fun x_10 ex_10 => ?_)
          have e_10 : x_10.toInt = 3 + t1_c11.toInt := by rw [ex_10]; exact zi_add (by decide) (rfl) (by omega) (by omega)
          clear ex_10
          refine lv_iconst (v := 1) hx hb dX8_known_21 (by decide) ?_
          refine lv_iadd hx hb dX8_known_22 ?_
          refine lv_topi (fun x_11 ex_11 => ?_)
          have e_11 : x_11.toInt = x_10.toInt + 1 := by rw [ex_11]; exact zi_add (rfl) (by decide) (by omega) (by omega)
          clear ex_11
          refine lv_iconst (v := 3) hx hb dX8_known_23 (by decide) ?_
          refine lv_iload_n hx hb dX8_known_24 rfl (lv_at hl 0 rfl) ?_
          refine lv_iadd hx hb dX8_known_25 ?_
          refine lv_topi (fun x_12 ex_12 => ?_)
          have e_12 : x_12.toInt = 3 + t1_c11.toInt := by rw [ex_12]; exact zi_add (by decide) (rfl) (by omega) (by omega)
          clear ex_12
          have k_13 := (f_X8_copies l D cI cB cQ H.size h sl zs ln ir tk tb tr fz na su le fu ap pp tc nm x_11 x_12 g0_c11 v0 ha_g0_c11 (by omega) (by omega) (by omega))
          refine wc_v (WC := [(h, .inr (7, [.ref sl, .int na, .ref zs, .ref ln, .ref ir, .ref tk, .int su, .int le, .ref tb, .int fu, .int ap, .int pp, .ref tr, .int tc, .ref fz, .int nm])), (sl, .inl (cI, 1653, .inl g0_c11))]) (WR := []) (va_runV (As := [.int x_11, .int x_12]) (rest := []) ⟨hx, hb, hml, hown, hts⟩ k_13 (cwV 2 hts gX8_known_X8_copies rfl rfl rfl (by decide +kernel) ⟨Nat.le_of_ble_eq_true rfl, Nat.le_of_ble_eq_true rfl⟩) (wp_V hP hK hD hN [0, 1] (by decide) rfl (ci := 7) rfl rfl) rfl rfl hl.1 rfl (lv_room (Nat.le_of_ble_eq_true rfl)) dX8_known_26 ⟨Nat.le_of_ble_eq_true rfl, Nat.le_of_ble_eq_true rfl⟩) hP hD hS hA [0, 1] [] rfl rfl (by decide) (by decide) (fun u_13 H locs hw_13 hP hD hS => ?_)
          clear k_13
          have hP : va_P D kl [(h, .inr (7, [.ref sl, .int na, .ref zs, .ref ln, .ref ir, .ref tk, .int su, .int le, .ref tb, .int fu, .int ap, .int pp, .ref tr, .int tc, .ref fz, .int nm])), (sl, .inl (cI, 1653, .inl u_13))] H := hP
          have hD : va_D A [(h, .inr (7, [.ref sl, .int na, .ref zs, .ref ln, .ref ir, .ref tk, .int su, .int le, .ref tb, .int fu, .int ap, .int pp, .ref tr, .int tc, .ref fz, .int nm])), (sl, .inl (cI, 1653, .inl u_13))] := hD
          obtain ⟨c13_0, c13_1, c13_2⟩ := hw_13
          have c13_0 : ∀ q : Nat, q < 57 → u_13 (57 * x_12.toInt.toNat + q) = g0_c11 (57 * x_11.toInt.toNat + q) := c13_0
          have c13_1 : FRM ((57 * x_12.toInt)) ((57 * x_12.toInt + 57)) g0_c11 u_13 := c13_1
          have c13_2 : SI u_13 v0 := c13_2
          have hf_13 : FRM (171) (1539) sf u_13 := FRM.trans hf_c11 (FRM.sub c13_1 (by omega) (by omega))
          obtain ⟨x_14, ex_14⟩ : ∃ y : Int32, y = t1_c11 + Int32.ofInt 1 := ⟨_, rfl⟩
          refine lv_iinc (v := x_14) (lv' := [(1, .int x_14), (0, .ref h)]) hx hb dX8_known_29 hl (k := 0) rfl ex_14.symm (by decide) rfl (fun ls hl => ?_)
          have ex_14 : x_14 = t1_c11 + 1 := ex_14
          have e_14 : x_14.toInt = t1_c11.toInt + 1 := by rw [ex_14]; exact zi_add (rfl) (by decide) (by omega) (by omega)
          clear ex_14
          refine lv_goto (tgt := 11) hx hb dX8_known_32 (by decide) ?_
          exact ih11 x_14 u_13 _ _ _ (show 0 ≤ x_14.toInt ∧ x_14.toInt ≤ 23 from by omega) c13_2 (KA.shift q0_c11 ha_g0_c11 (k := t1_c11.toInt) (by omega) (by omega) (by omega) c13_0 c13_1) hf_13 (by omega) (hP.sub [0, 1] rfl) (hD.sub [0, 1] (by decide) rfl) hS (lv_sub hl [0, 1] rfl)
    exact hL11 (((23 - (0 : Int32).toInt).toNat) + 1) 0 sf _ _ _ (show 0 ≤ 0 ∧ 0 ≤ 23 from by omega) hsi (KA.less h_ra (by omega)) FRM.refl (Nat.lt_succ_self _) (hP.sub [0, 1] rfl) (hD.sub [0, 1] (by decide) rfl) hS (lv_sub hl [0, 1] rfl)
set_option maxHeartbeats 4000000 in
set_option maxRecDepth 100000 in
theorem f_X8_undo (l : Launch) (D : va_G) (cI cB cQ : ClassId) (sz : Nat) (h : Nat) (sl : Nat) (zs : Nat) (ln : Nat) (ir : Nat) (tk : Nat) (tb : Nat) (tr : Nat) (fz : Nat) (na : Int32) (su : Int32) (le : Int32) (fu : Int32) (ap : Int32) (pp : Int32) (tc : Int32) (nm : Int32) (sf : Nat → Int32) (v0 : Int) (hsi : SI sf v0) (h_na : 0 ≤ na.toInt ∧ na.toInt ≤ 24) (h_le : 0 ≤ le.toInt ∧ le.toInt ≤ 120) (h_ap : 0 ≤ ap.toInt ∧ ap.toInt ≤ 120) (h_tc : 0 ≤ tc.toInt ∧ tc.toInt ≤ 16) (h_pp : 0 ≤ pp.toInt ∧ pp.toInt ≤ 120) (h_ra : KA sf na.toInt (kr sf 0)) : mi l yX8_undo wsX8_undo ({ frames := 1, cells := 0, slots := 0, locals := 23 }) D cI cB cQ [.ref h] sz [(h, .inr (7, [.ref sl, .int na, .ref zs, .ref ln, .ref ir, .ref tk, .int su, .int le, .ref tb, .int fu, .int ap, .int pp, .ref tr, .int tc, .ref fz, .int nm])), (sl, .inl (cI, 1653, .inl sf))] (fun (r : Int32) (u : Int32 × (Nat → Int32)) => (KS sf u.2) ∧ (KA u.2 u.1.toInt (kr sf 0)) ∧ (FRM (0) (57) sf u.2) ∧ (0 ≤ u.1.toInt ∧ u.1.toInt ≤ 24) ∧ (SI u.2 ((u.2 1).toInt))) (fun u => [(h, .inr (7, [.ref sl, .int u.1, .ref zs, .ref ln, .ref ir, .ref tk, .int su, .int le, .ref tb, .int fu, .int ap, .int pp, .ref tr, .int tc, .ref fz, .int nm])), (sl, .inl (cI, 1653, .inl u.2))]) 0 0 := by
  refine wm_i (cc := cX8_undo) (maxL := 1) (ret := (some .int)) (by decide) rfl (Nat.le_of_ble_eq_true rfl) ?_
  intro p e s m below meth c A ls hx hb hr hml hown hts hlocks hin hP hK hD hN hA hl hS
  have hown : s.vm.findClass RX8 = some m.cls := hown
  have hl : lv_has ls 1 [(0, .ref h)] := hl
  change W p l e ({ frames := 1, cells := 0, slots := 0, locals := 23 }) s m ([.ref h] : List Value).toArray below meth c s.heap [] 0 0 (MQ below (va_Qi (fun (r : Int32) (u : Int32 × (Nat → Int32)) => (KS sf u.2) ∧ (KA u.2 u.1.toInt (kr sf 0)) ∧ (FRM (0) (57) sf u.2) ∧ (0 ≤ u.1.toInt ∧ u.1.toInt ≤ 24) ∧ (SI u.2 ((u.2 1).toInt))) (fun u t => wb D A ((fun u => [(h, .inr (7, [.ref sl, .int u.1, .ref zs, .ref ln, .ref ir, .ref tk, .int su, .int le, .ref tb, .int fu, .int ap, .int pp, .ref tr, .int tc, .ref fz, .int nm])), (sl, .inl (cI, 1653, .inl u.2))]) u) t) A) ([.ref h] : List Value).toArray s 0 0 A) (F0 m 0 ls [])
  refine lv_aload_n hx hb dX8_undo_0 rfl (lv_at hl 0 rfl) ?_
  refine va_get (D := D) (ci := 7) (v := .int na) (C := RX8) (T := TX8) (N := 16) hx hb hts (fun _ h => List.mem_cons_of_mem _ (List.mem_append_right _ h)) hown hK hP 0 rfl rfl 1 (by decide) (hts (.fieldLink RX8 118 "WinterWalkModel" "acts" "I") (List.mem_of_getElem? (i := 1) rfl)) (fun _ h9 => h9) rfl dX8_undo_1 ?_
  refine lv_if_ne (tgt := 10) hx hb dX8_undo_4 (by decide) (fun c_1 => ?_) (fun c_1 => ?_)
  · have f_1 : ¬ na.toInt = 0 := zi_ne c_1
    refine lv_aload_n hx hb dX8_undo_10 rfl (lv_at hl 0 rfl) ?_
    refine lv_dup hx hb dX8_undo_11 rfl ?_
    refine va_get (D := D) (ci := 7) (v := .int na) (C := RX8) (T := TX8) (N := 16) hx hb hts (fun _ h => List.mem_cons_of_mem _ (List.mem_append_right _ h)) hown hK hP 0 rfl rfl 1 (by decide) (hts (.fieldLink RX8 118 "WinterWalkModel" "acts" "I") (List.mem_of_getElem? (i := 1) rfl)) (fun _ h9 => h9) rfl dX8_undo_12 ?_
    refine lv_iconst (v := 1) hx hb dX8_undo_15 (by decide) ?_
    refine lv_isub hx hb dX8_undo_16 ?_
    refine lv_topi (fun x_2 ex_2 => ?_)
    have e_2 : x_2.toInt = na.toInt - 1 := by rw [ex_2]; exact zi_sub (rfl) (by decide) (by omega) (by omega)
    clear ex_2
    refine va_put (D := D) (ci := 7) (v := .int x_2) (ty := .int) (C := RX8) (T := TX8) (N := 16) hx hb hts (fun _ h => List.mem_cons_of_mem _ (List.mem_append_right _ h)) tyX8 tyX8_ok nmX8 hown hK hP hD hS 0 rfl rfl 1 (by decide) (hts (.fieldLink RX8 118 "WinterWalkModel" "acts" "I") (List.mem_of_getElem? (i := 1) rfl)) (fun _ h9 => h9) rfl (by decide +kernel) rfl rfl (Nat.le_of_ble_eq_true rfl) dX8_undo_17 (fun H locs hP hD hS => ?_)
    have hP : va_P D kl [(h, .inr (7, [.ref sl, .int x_2, .ref zs, .ref ln, .ref ir, .ref tk, .int su, .int le, .ref tb, .int fu, .int ap, .int pp, .ref tr, .int tc, .ref fz, .int nm])), (sl, .inl (cI, 1653, .inl sf))] H := hP
    have hD : va_D A [(h, .inr (7, [.ref sl, .int x_2, .ref zs, .ref ln, .ref ir, .ref tk, .int su, .int le, .ref tb, .int fu, .int ap, .int pp, .ref tr, .int tc, .ref fz, .int nm])), (sl, .inl (cI, 1653, .inl sf))] := hD
    refine lv_aload_n hx hb dX8_undo_20 rfl (lv_at hl 0 rfl) ?_
    refine lv_iconst (v := 3) hx hb dX8_undo_21 (by decide) ?_
    refine lv_aload_n hx hb dX8_undo_22 rfl (lv_at hl 0 rfl) ?_
    refine va_get (D := D) (ci := 7) (v := .int x_2) (C := RX8) (T := TX8) (N := 16) hx hb hts (fun _ h => List.mem_cons_of_mem _ (List.mem_append_right _ h)) hown hK hP 0 rfl rfl 1 (by decide) (hts (.fieldLink RX8 118 "WinterWalkModel" "acts" "I") (List.mem_of_getElem? (i := 1) rfl)) (fun _ h9 => h9) rfl dX8_undo_23 ?_
    refine lv_iadd hx hb dX8_undo_26 ?_
    refine lv_topi (fun x_3 ex_3 => ?_)
    have e_3 : x_3.toInt = 3 + x_2.toInt := by rw [ex_3]; exact zi_add (by decide) (rfl) (by omega) (by omega)
    clear ex_3
    refine lv_iconst (v := 0) hx hb dX8_undo_27 (by decide) ?_
    have k_4 := (f_X8_copies0 l D cI cB cQ H.size h sl zs ln ir tk tb tr fz x_2 su le fu ap pp tc nm x_3 sf v0 hsi (by omega))
    refine wc_v (WC := [(h, .inr (7, [.ref sl, .int x_2, .ref zs, .ref ln, .ref ir, .ref tk, .int su, .int le, .ref tb, .int fu, .int ap, .int pp, .ref tr, .int tc, .ref fz, .int nm])), (sl, .inl (cI, 1653, .inl sf))]) (WR := []) (va_runV (As := [.int x_3, .int 0]) (rest := []) ⟨hx, hb, hml, hown, hts⟩ k_4 (cwV 2 hts gX8_undo_X8_copies rfl rfl rfl (by decide +kernel) ⟨Nat.le_of_ble_eq_true rfl, Nat.le_of_ble_eq_true rfl⟩) (wp_V hP hK hD hN [0, 1] (by decide) rfl (ci := 7) rfl rfl) rfl rfl hl.1 rfl (lv_room (Nat.le_of_ble_eq_true rfl)) dX8_undo_28 ⟨Nat.le_of_ble_eq_true rfl, Nat.le_of_ble_eq_true rfl⟩) hP hD hS hA [0, 1] [] rfl rfl (by decide) (by decide) (fun u_4 H locs hw_4 hP hD hS => ?_)
    clear k_4
    have hP : va_P D kl [(h, .inr (7, [.ref sl, .int x_2, .ref zs, .ref ln, .ref ir, .ref tk, .int su, .int le, .ref tb, .int fu, .int ap, .int pp, .ref tr, .int tc, .ref fz, .int nm])), (sl, .inl (cI, 1653, .inl u_4))] H := hP
    have hD : va_D A [(h, .inr (7, [.ref sl, .int x_2, .ref zs, .ref ln, .ref ir, .ref tk, .int su, .int le, .ref tb, .int fu, .int ap, .int pp, .ref tr, .int tc, .ref fz, .int nm])), (sl, .inl (cI, 1653, .inl u_4))] := hD
    obtain ⟨c4_0, c4_1, c4_2⟩ := hw_4
    have c4_0 : ∀ q : Nat, q < 57 → u_4 q = sf (57 * x_3.toInt.toNat + q) := c4_0
    have c4_1 : FRM (0) (57) sf u_4 := c4_1
    have c4_2 : SI u_4 ((u_4 1).toInt) := c4_2
    have hf_4 : FRM (0) (57) sf u_4 := FRM.trans FRM.refl (FRM.sub c4_1 (by omega) (by omega))
    refine lv_aload_n hx hb dX8_undo_31 rfl (lv_at hl 0 rfl) ?_
    refine va_get (D := D) (ci := 7) (v := .int x_2) (C := RX8) (T := TX8) (N := 16) hx hb hts (fun _ h => List.mem_cons_of_mem _ (List.mem_append_right _ h)) hown hK hP 0 rfl rfl 1 (by decide) (hts (.fieldLink RX8 118 "WinterWalkModel" "acts" "I") (List.mem_of_getElem? (i := 1) rfl)) (fun _ h9 => h9) rfl dX8_undo_32 ?_
    exact wr_i (v := x_2) hx hb hr hlocks hS (x_2, u_4) (by exact ⟨show KS sf u_4 from KS.of0 hsi hf_4 ((kr_copy0 hsi (by omega) c4_0).trans (KA.at h_ra (k := x_2.toInt) (by omega) (by omega))), show KA u_4 x_2.toInt (kr sf 0) from KA.frm (KA.less h_ra (by omega)) hsi hf_4 (by omega) (by omega), show FRM (0) (57) sf u_4 from hf_4, show 0 ≤ (x_2 : Int32).toInt ∧ (x_2 : Int32).toInt ≤ 24 from by omega, SI.self c4_2⟩) (hP.sub [0, 1] rfl) (hD.sub [0, 1] (by decide) rfl) dX8_undo_35
  · have f_1 : na.toInt = 0 := zi_eq c_1
    refine lv_ldc (v := (-1000002)) hx hb hown (hts (.constant RX8 121 (-1000002)) (List.mem_of_getElem? (i := 2) rfl)) dX8_undo_7 ?_
    exact wr_i (v := (-1000002)) hx hb hr hlocks hS (na, sf) (by exact ⟨show KS sf sf from KS.refl, show KA sf na.toInt (kr sf 0) from h_ra, show FRM (0) (57) sf sf from FRM.refl, show 0 ≤ (na : Int32).toInt ∧ (na : Int32).toInt ≤ 24 from by omega, SI.self hsi⟩) (hP.sub [0, 1] rfl) (hD.sub [0, 1] (by decide) rfl) dX8_undo_9
set_option maxHeartbeats 4000000 in
set_option maxRecDepth 100000 in
theorem f_X8_days (l : Launch) (D : va_G) (cI cB cQ : ClassId) (sz : Nat) (h : Nat) (sl : Nat) (zs : Nat) (ln : Nat) (ir : Nat) (tk : Nat) (tb : Nat) (tr : Nat) (fz : Nat) (na : Int32) (su : Int32) (le : Int32) (fu : Int32) (ap : Int32) (pp : Int32) (tc : Int32) (nm : Int32) (n : Int32) (sf : Nat → Int32) (v0 : Int) (hsi : SI sf v0) (h_na : 0 ≤ na.toInt ∧ na.toInt ≤ 24) (h_le : 0 ≤ le.toInt ∧ le.toInt ≤ 120) (h_ap : 0 ≤ ap.toInt ∧ ap.toInt ≤ 120) (h_tc : 0 ≤ tc.toInt ∧ tc.toInt ≤ 16) (h_pp : 0 ≤ pp.toInt ∧ pp.toInt ≤ 120) (h_ra : KA sf na.toInt (kr sf 0)) : mi l yX8_days wsX8_days ({ frames := 5, cells := 0, slots := 0, locals := 122 }) D cI cB cQ [.ref h, .int n] sz [(h, .inr (7, [.ref sl, .int na, .ref zs, .ref ln, .ref ir, .ref tk, .int su, .int le, .ref tb, .int fu, .int ap, .int pp, .ref tr, .int tc, .ref fz, .int nm])), (sl, .inl (cI, 1653, .inl sf))] (fun (r : Int32) (u : (Nat → Int32) × Int32) => (KS sf u.1) ∧ (KA u.1 u.2.toInt (kr sf 0)) ∧ (0 ≤ u.2.toInt ∧ u.2.toInt ≤ 24) ∧ (SI u.1 v0)) (fun u => [(h, .inr (7, [.ref sl, .int u.2, .ref zs, .ref ln, .ref ir, .ref tk, .int su, .int le, .ref tb, .int fu, .int ap, .int pp, .ref tr, .int tc, .ref fz, .int nm])), (sl, .inl (cI, 1653, .inl u.1))]) 0 0 := by
  refine wm_i (cc := cX8_days) (maxL := 3) (ret := (some .int)) (by decide) rfl (Nat.le_of_ble_eq_true rfl) ?_
  intro p e s m below meth c A ls hx hb hr hml hown hts hlocks hin hP hK hD hN hA hl hS
  have hown : s.vm.findClass RX8 = some m.cls := hown
  have hl : lv_has ls 3 [(0, .ref h), (1, .int n)] := hl
  change W p l e ({ frames := 5, cells := 0, slots := 0, locals := 122 }) s m ([.ref h, .int n] : List Value).toArray below meth c s.heap [] 0 0 (MQ below (va_Qi (fun (r : Int32) (u : (Nat → Int32) × Int32) => (KS sf u.1) ∧ (KA u.1 u.2.toInt (kr sf 0)) ∧ (0 ≤ u.2.toInt ∧ u.2.toInt ≤ 24) ∧ (SI u.1 v0)) (fun u t => wb D A ((fun u => [(h, .inr (7, [.ref sl, .int u.2, .ref zs, .ref ln, .ref ir, .ref tk, .int su, .int le, .ref tb, .int fu, .int ap, .int pp, .ref tr, .int tc, .ref fz, .int nm])), (sl, .inl (cI, 1653, .inl u.1))]) u) t) A) ([.ref h, .int n] : List Value).toArray s 0 0 A) (F0 m 0 ls [])
  refine lv_aload_n hx hb dX8_days_0 rfl (lv_at hl 0 rfl) ?_
  refine va_get (D := D) (ci := 7) (v := .ref sl) (C := RX8) (T := TX8) (N := 16) hx hb hts (fun _ h => List.mem_cons_of_mem _ (List.mem_append_right _ h)) hown hK hP 0 rfl rfl 0 (by decide) (hts (.fieldLink RX8 7 "WinterWalkModel" "slot" "[I") (List.mem_of_getElem? (i := 1) rfl)) (fun _ h9 => h9) rfl dX8_days_1 ?_
  refine lv_iconst (v := 1) hx hb dX8_days_4 (by decide) ?_
  refine va_iald hx hb hK hP 1 0 rfl rfl (zi_in (by decide) (by decide)) dX8_days_5 ?_
  refine lv_topi (fun x_1 ex_1 => ?_)
  have f_1 : 0 ≤ x_1.toInt ∧ x_1.toInt ≤ 8 := by rw [ex_1]; exact si_v hsi (s := 0) (by decide) (by omega)
  have g_1 : x_1.toInt = v0 := by rw [ex_1]; exact hsi.2
  refine lv_if_ne (tgt := 12) hx hb dX8_days_6 (by decide) (fun c_2 => ?_) (fun c_2 => ?_)
  · have f_2 : ¬ x_1.toInt = 0 := zi_ne c_2
    refine lv_iload_n hx hb dX8_days_12 rfl (lv_at hl 1 rfl) ?_
    refine lv_i2l (v := (n.toInt64)) hx hb dX8_days_13 rfl ?_
    refine lv_lconst (v := 1) hx hb dX8_days_14 (by decide) ?_
    refine lv_ldc2 (v := 24) hx hb hown (hts (.constantLong RX8 142 (24)) (List.mem_of_getElem? (i := 3) rfl)) dX8_days_15 ?_
    have k_3 := (g_X8_in l D cI cB cQ s.heap.size (n.toInt64) 1 24)
    refine wc_i (WC := []) (WR := [(h, .inr (7, [.ref sl, .int na, .ref zs, .ref ln, .ref ir, .ref tk, .int su, .int le, .ref tb, .int fu, .int ap, .int pp, .ref tr, .int tc, .ref fz, .int nm])), (sl, .inl (cI, 1653, .inl sf))]) (va_runS (As := [.long (n.toInt64), .long 1, .long 24]) (rest := []) ⟨hx, hb, hml, hown, hts⟩ k_3 (va_cwS 3 hts gX8_days_X8_in rfl rfl rfl (by decide +kernel) ⟨Nat.le_of_ble_eq_true rfl, Nat.le_of_ble_eq_true rfl⟩) (wp_S hP hK hD hN [] (by decide) rfl) rfl rfl hl.1 rfl (lv_room (Nat.le_of_ble_eq_true rfl)) dX8_days_18 ⟨Nat.le_of_ble_eq_true rfl, Nat.le_of_ble_eq_true rfl⟩) hP hD hS hA [] [0, 1] rfl rfl (by decide) (by decide) (fun r_3 u_3 H locs hw_3 hP hD hS => ?_)
    clear k_3
    have hP : va_P D kl [(h, .inr (7, [.ref sl, .int na, .ref zs, .ref ln, .ref ir, .ref tk, .int su, .int le, .ref tb, .int fu, .int ap, .int pp, .ref tr, .int tc, .ref fz, .int nm])), (sl, .inl (cI, 1653, .inl sf))] H := hP
    have hD : va_D A [(h, .inr (7, [.ref sl, .int na, .ref zs, .ref ln, .ref ir, .ref tk, .int su, .int le, .ref tb, .int fu, .int ap, .int pp, .ref tr, .int tc, .ref fz, .int nm])), (sl, .inl (cI, 1653, .inl sf))] := hD
    have c3_0 := hw_3
    rcases c3_0 with ⟨e_3, f_3⟩ | ⟨e_3, f_3⟩
    · subst e_3
      have f_3 : (1 : Int) ≤ n.toInt ∧ n.toInt ≤ (24 : Int) := by
        have h8 := f_3
        try simp only [zl_of] at h8
        exact h8
      refine lv_if_ne (tgt := 27) hx hb dX8_days_21 (by decide) (fun _ => ?_) (fun c9 => absurd c9 (by decide))
      refine lv_aload_n hx hb dX8_days_27 rfl (lv_at hl 0 rfl) ?_
      refine va_get (D := D) (ci := 7) (v := .ref sl) (C := RX8) (T := TX8) (N := 16) hx hb hts (fun _ h => List.mem_cons_of_mem _ (List.mem_append_right _ h)) hown hK hP 0 rfl rfl 0 (by decide) (hts (.fieldLink RX8 7 "WinterWalkModel" "slot" "[I") (List.mem_of_getElem? (i := 1) rfl)) (fun _ h9 => h9) rfl dX8_days_28 ?_
      refine lv_bipush (v := 54) hx hb dX8_days_31 (by decide) ?_
      refine va_iald hx hb hK hP 1 0 rfl rfl (zi_in (by decide) (by decide)) dX8_days_33 ?_
      refine lv_topi (fun x_4 ex_4 => ?_)
      refine lv_iload_n hx hb dX8_days_34 rfl (lv_at hl 1 rfl) ?_
      refine lv_iadd hx hb dX8_days_35 ?_
      refine lv_topi (fun x_5 ex_5 => ?_)
      clear ex_5
      refine lv_sipush (v := 999) hx hb dX8_days_36 (by decide) ?_
      refine lv_icmp_le (tgt := 45) hx hb dX8_days_39 (by decide) (fun c_6 => ?_) (fun c_6 => ?_)
      · have f_6 : x_5.toInt ≤ 999 := zi_le c_6
        refine lv_iconst (v := 0) hx hb dX8_days_45 (by decide) ?_
        refine lv_istore_n (lv' := [(2, .int 0), (0, .ref h), (1, .int n)]) hx hb dX8_days_46 rfl hl (by decide) rfl (fun ls hl => ?_)
        have hL47 : ∀ (nf : Nat) (t2_c47 : Int32) (g0_c47 : Nat → Int32) (g1_c47 : Int32) (H : Heap) (locs : List Loc) (ls : Array Slot), (0 ≤ t2_c47.toInt ∧ t2_c47.toInt ≤ 24) → (SI g0_c47 v0) → (0 ≤ g1_c47.toInt ∧ g1_c47.toInt ≤ 24) → (KS sf g0_c47) → (KA g0_c47 g1_c47.toInt (kr sf 0)) → (n.toInt - t2_c47.toInt).toNat < nf → va_P D kl [(h, .inr (7, [.ref sl, .int g1_c47, .ref zs, .ref ln, .ref ir, .ref tk, .int su, .int le, .ref tb, .int fu, .int ap, .int pp, .ref tr, .int tc, .ref fz, .int nm])), (sl, .inl (cI, 1653, .inl g0_c47))] H → va_D A [(h, .inr (7, [.ref sl, .int g1_c47, .ref zs, .ref ln, .ref ir, .ref tk, .int su, .int le, .ref tb, .int fu, .int ap, .int pp, .ref tr, .int tc, .ref fz, .int nm])), (sl, .inl (cI, 1653, .inl g0_c47))] → va_S A s.heap H locs → lv_has ls 3 [(2, .int t2_c47), (0, .ref h), (1, .int n)] → W p l e ({ frames := 5, cells := 0, slots := 0, locals := 122 }) s m ([.ref h, .int n] : List Value).toArray below meth c H locs 0 0 (MQ below (va_Qi (fun (r : Int32) (u : (Nat → Int32) × Int32) => (KS sf u.1) ∧ (KA u.1 u.2.toInt (kr sf 0)) ∧ (0 ≤ u.2.toInt ∧ u.2.toInt ≤ 24) ∧ (SI u.1 v0)) (fun u t => wb D A ((fun u => [(h, .inr (7, [.ref sl, .int u.2, .ref zs, .ref ln, .ref ir, .ref tk, .int su, .int le, .ref tb, .int fu, .int ap, .int pp, .ref tr, .int tc, .ref fz, .int nm])), (sl, .inl (cI, 1653, .inl u.1))]) u) t) A) ([.ref h, .int n] : List Value).toArray s 0 0 A) (F0 m 47 ls []) := by
          intro nf
          induction nf with
          | zero =>
            intro t2_c47 g0_c47 g1_c47 H locs ls i_t2_c47 ha_g0_c47 i_g1_c47 q0_c47 q1_c47 hm
            exact absurd hm (Nat.not_lt_zero _)
          | succ nf ih47 =>
            intro t2_c47 g0_c47 g1_c47 H locs ls i_t2_c47 ha_g0_c47 i_g1_c47 q0_c47 q1_c47 hm47 hP hD hS hl
            refine lv_iload_n hx hb dX8_days_47 rfl (lv_at hl 0 rfl) ?_
            refine lv_iload_n hx hb dX8_days_48 rfl (lv_at hl 2 rfl) ?_
            refine lv_icmp_ge (tgt := 68) hx hb dX8_days_49 (by decide) (fun c_7 => ?_) (fun c_7 => ?_)
            · have f_7 : n.toInt ≤ t2_c47.toInt := zi_le c_7
              refine lv_aload_n hx hb dX8_days_68 rfl (lv_at hl 1 rfl) ?_
              refine va_get (D := D) (ci := 7) (v := .ref sl) (C := RX8) (T := TX8) (N := 16) hx hb hts (fun _ h => List.mem_cons_of_mem _ (List.mem_append_right _ h)) hown hK hP 0 rfl rfl 0 (by decide) (hts (.fieldLink RX8 7 "WinterWalkModel" "slot" "[I") (List.mem_of_getElem? (i := 1) rfl)) (fun _ h9 => h9) rfl dX8_days_69 ?_
              refine lv_bipush (v := 55) hx hb dX8_days_72 (by decide) ?_
              refine va_iald hx hb hK hP 1 0 rfl rfl (zi_in (by decide) (by decide)) dX8_days_74 ?_
              refine lv_topi (fun x_8 ex_8 => ?_)
              exact wr_i (v := x_8) hx hb hr hlocks hS (g0_c47, g1_c47) (by exact ⟨show KS sf g0_c47 from q0_c47, show KA g0_c47 g1_c47.toInt (kr sf 0) from q1_c47, show 0 ≤ (g1_c47 : Int32).toInt ∧ (g1_c47 : Int32).toInt ≤ 24 from by omega, ha_g0_c47⟩) (hP.sub [0, 1] rfl) (hD.sub [0, 1] (by decide) rfl) dX8_days_75
            · have f_7 : ¬ n.toInt ≤ t2_c47.toInt := zi_nle c_7
              refine lv_aload_n hx hb dX8_days_52 rfl (lv_at hl 1 rfl) ?_
              have k_9 := (f_X8_known l D cI cB cQ H.size h sl zs ln ir tk tb tr fz g1_c47 su le fu ap pp tc nm g0_c47 v0 ha_g0_c47 (by omega) (by omega) (by omega) (by omega) (by omega) (KA.of q1_c47 q0_c47))
              refine wc_v (WC := [(h, .inr (7, [.ref sl, .int g1_c47, .ref zs, .ref ln, .ref ir, .ref tk, .int su, .int le, .ref tb, .int fu, .int ap, .int pp, .ref tr, .int tc, .ref fz, .int nm])), (sl, .inl (cI, 1653, .inl g0_c47))]) (WR := []) (va_runV (As := []) (rest := []) ⟨hx, hb, hml, hown, hts⟩ k_9 (cwV 0 hts gX8_days_X8_known rfl rfl rfl (by decide +kernel) ⟨Nat.le_of_ble_eq_true rfl, Nat.le_of_ble_eq_true rfl⟩) (wp_V hP hK hD hN [0, 1] (by decide) rfl (ci := 7) rfl rfl) rfl rfl hl.1 rfl (lv_room (Nat.le_of_ble_eq_true rfl)) dX8_days_53 ⟨Nat.le_of_ble_eq_true rfl, Nat.le_of_ble_eq_true rfl⟩) hP hD hS hA [0, 1] [] rfl rfl (by decide) (by decide) (pe2 (fun v9_0 v9_1 H locs hw_9 hP hD hS => ?_))
              clear k_9
              have hP : va_P D kl [(h, .inr (7, [.ref sl, .int v9_1, .ref zs, .ref ln, .ref ir, .ref tk, .int su, .int le, .ref tb, .int fu, .int ap, .int pp, .ref tr, .int tc, .ref fz, .int nm])), (sl, .inl (cI, 1653, .inl v9_0))] H := hP
              have hD : va_D A [(h, .inr (7, [.ref sl, .int v9_1, .ref zs, .ref ln, .ref ir, .ref tk, .int su, .int le, .ref tb, .int fu, .int ap, .int pp, .ref tr, .int tc, .ref fz, .int nm])), (sl, .inl (cI, 1653, .inl v9_0))] := hD
              obtain ⟨c9_0, c9_1, c9_2, c9_3⟩ := hw_9
              have c9_0 : KA v9_0 v9_1.toInt (kr g0_c47 0) := c9_0
              have c9_1 : FRM (171) (1539) g0_c47 v9_0 := c9_1
              have c9_2 : 0 ≤ v9_1.toInt ∧ v9_1.toInt ≤ 24 := c9_2
              have c9_3 : SI v9_0 v0 := c9_3
              refine lv_aload_n hx hb dX8_days_56 rfl (lv_at hl 1 rfl) ?_
              refine lv_iconst (v := 0) hx hb dX8_days_57 (by decide) ?_
              refine lv_iconst (v := (-1)) hx hb dX8_days_58 (by decide) ?_
              have k_10 := (f_X8_day l D cI cB cQ H.size h sl zs ln ir tk tb tr fz v9_1 su le fu ap pp tc nm 0 (-1) v9_0 v0 c9_3 ⟨by decide, by decide⟩)
              refine wc_v (WC := [(h, .inr (7, [.ref sl, .int v9_1, .ref zs, .ref ln, .ref ir, .ref tk, .int su, .int le, .ref tb, .int fu, .int ap, .int pp, .ref tr, .int tc, .ref fz, .int nm])), (sl, .inl (cI, 1653, .inl v9_0))]) (WR := []) (va_runV (As := [.int 0, .int (-1)]) (rest := []) ⟨hx, hb, hml, hown, hts⟩ k_10 (cwV 2 hts gX8_days_X8_day rfl rfl rfl (by decide +kernel) ⟨Nat.le_of_ble_eq_true rfl, Nat.le_of_ble_eq_true rfl⟩) (wp_V hP hK hD hN [0, 1] (by decide) rfl (ci := 7) rfl rfl) rfl rfl hl.1 rfl (lv_room (Nat.le_of_ble_eq_true rfl)) dX8_days_59 ⟨Nat.le_of_ble_eq_true rfl, Nat.le_of_ble_eq_true rfl⟩) hP hD hS hA [0, 1] [] rfl rfl (by decide) (by decide) (fun u_10 H locs hw_10 hP hD hS => ?_)
              clear k_10
              have hP : va_P D kl [(h, .inr (7, [.ref sl, .int v9_1, .ref zs, .ref ln, .ref ir, .ref tk, .int su, .int le, .ref tb, .int fu, .int ap, .int pp, .ref tr, .int tc, .ref fz, .int nm])), (sl, .inl (cI, 1653, .inl u_10))] H := hP
              have hD : va_D A [(h, .inr (7, [.ref sl, .int v9_1, .ref zs, .ref ln, .ref ir, .ref tk, .int su, .int le, .ref tb, .int fu, .int ap, .int pp, .ref tr, .int tc, .ref fz, .int nm])), (sl, .inl (cI, 1653, .inl u_10))] := hD
              obtain ⟨c10_0, c10_1⟩ := hw_10
              have c10_0 : FRM (57 * (0 : Int) + 31) (57 * (0 : Int) + 57) v9_0 u_10 := c10_0
              have c10_1 : SI u_10 v0 := c10_1
              obtain ⟨x_11, ex_11⟩ : ∃ y : Int32, y = t2_c47 + Int32.ofInt 1 := ⟨_, rfl⟩
              refine lv_iinc (v := x_11) (lv' := [(2, .int x_11), (0, .ref h), (1, .int n)]) hx hb dX8_days_62 hl (k := 0) rfl ex_11.symm (by decide) rfl (fun ls hl => ?_)
              have ex_11 : x_11 = t2_c47 + 1 := ex_11
              have e_11 : x_11.toInt = t2_c47.toInt + 1 := by rw [ex_11]; exact zi_add (rfl) (by decide) (by omega) (by omega)
              clear ex_11
              refine lv_goto (tgt := 47) hx hb dX8_days_65 (by decide) ?_
              exact ih47 x_11 u_10 v9_1 _ _ _ (show 0 ≤ x_11.toInt ∧ x_11.toInt ≤ 24 from by omega) c10_1 (show 0 ≤ v9_1.toInt ∧ v9_1.toInt ≤ 24 from by omega) (KS.trans q0_c47 (KS.trans (KS.frm ha_g0_c47 c9_1 (by omega)) (KS.frm c9_3 c10_0 (by omega)))) (KA.to (KA.frm c9_0 c9_3 c10_0 (by omega) (by omega)) q0_c47) (by omega) (hP.sub [0, 1] rfl) (hD.sub [0, 1] (by decide) rfl) hS (lv_sub hl [0, 1, 2] rfl)
        exact hL47 (((n.toInt - (0 : Int32).toInt).toNat) + 1) 0 sf na _ _ _ (show 0 ≤ 0 ∧ 0 ≤ 24 from by omega) hsi (show 0 ≤ na.toInt ∧ na.toInt ≤ 24 from by omega) (KS.refl) (h_ra) (Nat.lt_succ_self _) (hP.sub [0, 1] rfl) (hD.sub [0, 1] (by decide) rfl) hS (lv_sub hl [0, 1, 2] rfl)
      · have f_6 : ¬ x_5.toInt ≤ 999 := zi_nle c_6
        refine lv_ldc (v := (-1000003)) hx hb hown (hts (.constant RX8 61 (-1000003)) (List.mem_of_getElem? (i := 5) rfl)) dX8_days_42 ?_
        exact wr_i (v := (-1000003)) hx hb hr hlocks hS (sf, na) (by exact ⟨show KS sf sf from KS.refl, show KA sf na.toInt (kr sf 0) from h_ra, show 0 ≤ (na : Int32).toInt ∧ (na : Int32).toInt ≤ 24 from by omega, hsi⟩) (hP.sub [0, 1] rfl) (hD.sub [0, 1] (by decide) rfl) dX8_days_44
    · subst e_3
      have f_3 : ¬ ((1 : Int) ≤ n.toInt ∧ n.toInt ≤ (24 : Int)) := by
        have h8 := f_3
        try simp only [zl_of] at h8
        exact h8
      refine lv_if_ne (tgt := 27) hx hb dX8_days_21 (by decide) (fun c9 => absurd (by decide) c9) (fun _ => ?_)
      refine lv_ldc (v := (-1000001)) hx hb hown (hts (.constant RX8 48 (-1000001)) (List.mem_of_getElem? (i := 4) rfl)) dX8_days_24 ?_
      exact wr_i (v := (-1000001)) hx hb hr hlocks hS (sf, na) (by exact ⟨show KS sf sf from KS.refl, show KA sf na.toInt (kr sf 0) from h_ra, show 0 ≤ (na : Int32).toInt ∧ (na : Int32).toInt ≤ 24 from by omega, hsi⟩) (hP.sub [0, 1] rfl) (hD.sub [0, 1] (by decide) rfl) dX8_days_26
  · have f_2 : x_1.toInt = 0 := zi_eq c_2
    refine lv_ldc (v := (-1000002)) hx hb hown (hts (.constant RX8 121 (-1000002)) (List.mem_of_getElem? (i := 2) rfl)) dX8_days_9 ?_
    exact wr_i (v := (-1000002)) hx hb hr hlocks hS (sf, na) (by exact ⟨show KS sf sf from KS.refl, show KA sf na.toInt (kr sf 0) from h_ra, show 0 ≤ (na : Int32).toInt ∧ (na : Int32).toInt ≤ 24 from by omega, hsi⟩) (hP.sub [0, 1] rfl) (hD.sub [0, 1] (by decide) rfl) dX8_days_11
set_option maxHeartbeats 4000000 in
set_option maxRecDepth 100000 in
theorem f_X8_offer (l : Launch) (D : va_G) (cI cB cQ : ClassId) (sz : Nat) (h : Nat) (sl : Nat) (zs : Nat) (ln : Nat) (ir : Nat) (tk : Nat) (tb : Nat) (tr : Nat) (fz : Nat) (na : Int32) (su : Int32) (le : Int32) (fu : Int32) (ap : Int32) (pp : Int32) (tc : Int32) (nm : Int32) (v : Int32) (b : Int32) (sf : Nat → Int32) (v0 : Int) (hsi : SI sf v0) (h_na : 0 ≤ na.toInt ∧ na.toInt ≤ 24) (h_le : 0 ≤ le.toInt ∧ le.toInt ≤ 120) (h_ap : 0 ≤ ap.toInt ∧ ap.toInt ≤ 120) (h_tc : 0 ≤ tc.toInt ∧ tc.toInt ≤ 16) (h_pp : 0 ≤ pp.toInt ∧ pp.toInt ≤ 120) (h_ra : KA sf na.toInt (kr sf 0)) : mi l yX8_offer wsX8_offer ({ frames := 2, cells := 0, slots := 0, locals := 46 }) D cI cB cQ [.ref h, .int v, .int b] sz [(h, .inr (7, [.ref sl, .int na, .ref zs, .ref ln, .ref ir, .ref tk, .int su, .int le, .ref tb, .int fu, .int ap, .int pp, .ref tr, .int tc, .ref fz, .int nm])), (sl, .inl (cI, 1653, .inl sf))] (fun (r : Int32) (u : (Nat → Int32) × Int32) => (KS sf u.1) ∧ (KA u.1 u.2.toInt (kr sf 0)) ∧ (0 ≤ u.2.toInt ∧ u.2.toInt ≤ 24) ∧ (SI u.1 v0)) (fun u => [(h, .inr (7, [.ref sl, .int u.2, .ref zs, .ref ln, .ref ir, .ref tk, .int su, .int le, .ref tb, .int fu, .int ap, .int pp, .ref tr, .int tc, .ref fz, .int nm])), (sl, .inl (cI, 1653, .inl u.1))]) 0 0 := by
  refine wm_i (cc := cX8_offer) (maxL := 4) (ret := (some .int)) (by decide) rfl (Nat.le_of_ble_eq_true rfl) ?_
  intro p e s m below meth c A ls hx hb hr hml hown hts hlocks hin hP hK hD hN hA hl hS
  have hown : s.vm.findClass RX8 = some m.cls := hown
  have hl : lv_has ls 4 [(0, .ref h), (1, .int v), (2, .int b)] := hl
  change W p l e ({ frames := 2, cells := 0, slots := 0, locals := 46 }) s m ([.ref h, .int v, .int b] : List Value).toArray below meth c s.heap [] 0 0 (MQ below (va_Qi (fun (r : Int32) (u : (Nat → Int32) × Int32) => (KS sf u.1) ∧ (KA u.1 u.2.toInt (kr sf 0)) ∧ (0 ≤ u.2.toInt ∧ u.2.toInt ≤ 24) ∧ (SI u.1 v0)) (fun u t => wb D A ((fun u => [(h, .inr (7, [.ref sl, .int u.2, .ref zs, .ref ln, .ref ir, .ref tk, .int su, .int le, .ref tb, .int fu, .int ap, .int pp, .ref tr, .int tc, .ref fz, .int nm])), (sl, .inl (cI, 1653, .inl u.1))]) u) t) A) ([.ref h, .int v, .int b] : List Value).toArray s 0 0 A) (F0 m 0 ls [])
  refine lv_aload_n hx hb dX8_offer_0 rfl (lv_at hl 0 rfl) ?_
  refine lv_iload_n hx hb dX8_offer_1 rfl (lv_at hl 1 rfl) ?_
  have k_1 := (g_X8_isVillageThere l D cI cB cQ s.heap.size h sl zs ln ir tk tb tr fz na su le fu ap pp tc nm v sf v0 hsi)
  refine wc_i (WC := [(h, .inr (7, [.ref sl, .int na, .ref zs, .ref ln, .ref ir, .ref tk, .int su, .int le, .ref tb, .int fu, .int ap, .int pp, .ref tr, .int tc, .ref fz, .int nm])), (sl, .inl (cI, 1653, .inl sf))]) (WR := []) (va_runV (As := [.int v]) (rest := []) ⟨hx, hb, hml, hown, hts⟩ k_1 (cwV 1 hts gX8_offer_X8_isVillageThere rfl rfl rfl (by decide +kernel) ⟨Nat.le_of_ble_eq_true rfl, Nat.le_of_ble_eq_true rfl⟩) (wp_V hP hK hD hN [0, 1] (by decide) rfl (ci := 7) rfl rfl) rfl rfl hl.1 rfl (lv_room (Nat.le_of_ble_eq_true rfl)) dX8_offer_2 ⟨Nat.le_of_ble_eq_true rfl, Nat.le_of_ble_eq_true rfl⟩) hP hD hS hA [0, 1] [] rfl rfl (by decide) (by decide) (fun r_1 u_1 H locs hw_1 hP hD hS => ?_)
  clear k_1
  have hP : va_P D kl [(h, .inr (7, [.ref sl, .int na, .ref zs, .ref ln, .ref ir, .ref tk, .int su, .int le, .ref tb, .int fu, .int ap, .int pp, .ref tr, .int tc, .ref fz, .int nm])), (sl, .inl (cI, 1653, .inl sf))] H := hP
  have hD : va_D A [(h, .inr (7, [.ref sl, .int na, .ref zs, .ref ln, .ref ir, .ref tk, .int su, .int le, .ref tb, .int fu, .int ap, .int pp, .ref tr, .int tc, .ref fz, .int nm])), (sl, .inl (cI, 1653, .inl sf))] := hD
  have c1_0 := hw_1
  rcases c1_0 with ⟨e_1, f_1⟩ | e_1
  · subst e_1
    have f_1 : 0 ≤ v.toInt ∧ v.toInt ≤ 7 ∧ v.toInt < v0 := f_1
    refine lv_if_eq (tgt := 20) hx hb dX8_offer_5 (by decide) (fun c9 => absurd c9 (by decide)) (fun _ => ?_)
    refine lv_iload_n hx hb dX8_offer_8 rfl (lv_at hl 2 rfl) ?_
    refine lv_i2l (v := (b.toInt64)) hx hb dX8_offer_9 rfl ?_
    refine lv_lconst (v := 0) hx hb dX8_offer_10 (by decide) ?_
    refine lv_ldc2 (v := 20) hx hb hown (hts (.constantLong RX8 150 (20)) (List.mem_of_getElem? (i := 1) rfl)) dX8_offer_11 ?_
    have k_2 := (g_X8_in l D cI cB cQ H.size (b.toInt64) 0 20)
    refine wc_i (WC := []) (WR := [(h, .inr (7, [.ref sl, .int na, .ref zs, .ref ln, .ref ir, .ref tk, .int su, .int le, .ref tb, .int fu, .int ap, .int pp, .ref tr, .int tc, .ref fz, .int nm])), (sl, .inl (cI, 1653, .inl sf))]) (va_runS (As := [.long (b.toInt64), .long 0, .long 20]) (rest := []) ⟨hx, hb, hml, hown, hts⟩ k_2 (va_cwS 3 hts gX8_offer_X8_in rfl rfl rfl (by decide +kernel) ⟨Nat.le_of_ble_eq_true rfl, Nat.le_of_ble_eq_true rfl⟩) (wp_S hP hK hD hN [] (by decide) rfl) rfl rfl hl.1 rfl (lv_room (Nat.le_of_ble_eq_true rfl)) dX8_offer_14 ⟨Nat.le_of_ble_eq_true rfl, Nat.le_of_ble_eq_true rfl⟩) hP hD hS hA [] [0, 1] rfl rfl (by decide) (by decide) (fun r_2 u_2 H locs hw_2 hP hD hS => ?_)
    clear k_2
    have hP : va_P D kl [(h, .inr (7, [.ref sl, .int na, .ref zs, .ref ln, .ref ir, .ref tk, .int su, .int le, .ref tb, .int fu, .int ap, .int pp, .ref tr, .int tc, .ref fz, .int nm])), (sl, .inl (cI, 1653, .inl sf))] H := hP
    have hD : va_D A [(h, .inr (7, [.ref sl, .int na, .ref zs, .ref ln, .ref ir, .ref tk, .int su, .int le, .ref tb, .int fu, .int ap, .int pp, .ref tr, .int tc, .ref fz, .int nm])), (sl, .inl (cI, 1653, .inl sf))] := hD
    have c2_0 := hw_2
    rcases c2_0 with ⟨e_2, f_2⟩ | ⟨e_2, f_2⟩
    · subst e_2
      have f_2 : (0 : Int) ≤ b.toInt ∧ b.toInt ≤ (20 : Int) := by
        have h8 := f_2
        try simp only [zl_of] at h8
        exact h8
      refine lv_if_ne (tgt := 23) hx hb dX8_offer_17 (by decide) (fun _ => ?_) (fun c9 => absurd c9 (by decide))
      refine lv_aload_n hx hb dX8_offer_23 rfl (lv_at hl 0 rfl) ?_
      have k_3 := (f_X8_known l D cI cB cQ H.size h sl zs ln ir tk tb tr fz na su le fu ap pp tc nm sf v0 hsi (by omega) (by omega) (by omega) (by omega) (by omega) (h_ra))
      refine wc_v (WC := [(h, .inr (7, [.ref sl, .int na, .ref zs, .ref ln, .ref ir, .ref tk, .int su, .int le, .ref tb, .int fu, .int ap, .int pp, .ref tr, .int tc, .ref fz, .int nm])), (sl, .inl (cI, 1653, .inl sf))]) (WR := []) (va_runV (As := []) (rest := []) ⟨hx, hb, hml, hown, hts⟩ k_3 (cwV 0 hts gX8_offer_X8_known rfl rfl rfl (by decide +kernel) ⟨Nat.le_of_ble_eq_true rfl, Nat.le_of_ble_eq_true rfl⟩) (wp_V hP hK hD hN [0, 1] (by decide) rfl (ci := 7) rfl rfl) rfl rfl hl.1 rfl (lv_room (Nat.le_of_ble_eq_true rfl)) dX8_offer_24 ⟨Nat.le_of_ble_eq_true rfl, Nat.le_of_ble_eq_true rfl⟩) hP hD hS hA [0, 1] [] rfl rfl (by decide) (by decide) (pe2 (fun v3_0 v3_1 H locs hw_3 hP hD hS => ?_))
      clear k_3
      have hP : va_P D kl [(h, .inr (7, [.ref sl, .int v3_1, .ref zs, .ref ln, .ref ir, .ref tk, .int su, .int le, .ref tb, .int fu, .int ap, .int pp, .ref tr, .int tc, .ref fz, .int nm])), (sl, .inl (cI, 1653, .inl v3_0))] H := hP
      have hD : va_D A [(h, .inr (7, [.ref sl, .int v3_1, .ref zs, .ref ln, .ref ir, .ref tk, .int su, .int le, .ref tb, .int fu, .int ap, .int pp, .ref tr, .int tc, .ref fz, .int nm])), (sl, .inl (cI, 1653, .inl v3_0))] := hD
      obtain ⟨c3_0, c3_1, c3_2, c3_3⟩ := hw_3
      have c3_0 : KA v3_0 v3_1.toInt (kr sf 0) := c3_0
      have c3_1 : FRM (171) (1539) sf v3_0 := c3_1
      have c3_2 : 0 ≤ v3_1.toInt ∧ v3_1.toInt ≤ 24 := c3_2
      have c3_3 : SI v3_0 v0 := c3_3
      refine lv_aload_n hx hb dX8_offer_27 rfl (lv_at hl 0 rfl) ?_
      refine va_get (D := D) (ci := 7) (v := .ref sl) (C := RX8) (T := TX8) (N := 16) hx hb hts (fun _ h => List.mem_cons_of_mem _ (List.mem_append_right _ h)) hown hK hP 0 rfl rfl 0 (by decide) (hts (.fieldLink RX8 7 "WinterWalkModel" "slot" "[I") (List.mem_of_getElem? (i := 3) rfl)) (fun _ h9 => h9) rfl dX8_offer_28 ?_
      refine lv_bipush (v := 23) hx hb dX8_offer_31 (by decide) ?_
      refine lv_iload_n hx hb dX8_offer_33 rfl (lv_at hl 1 rfl) ?_
      refine lv_iadd hx hb dX8_offer_34 ?_
      refine lv_topi (fun x_4 ex_4 => ?_)
      have e_4 : x_4.toInt = 23 + v.toInt := by rw [ex_4]; exact zi_add (by decide) (rfl) (by omega) (by omega)
      clear ex_4
      refine va_iald hx hb hK hP 1 0 rfl rfl (zi_in (by omega) (by omega)) dX8_offer_35 ?_
      refine lv_topi (fun x_5 ex_5 => ?_)
      clear ex_5
      refine lv_istore_n (lv' := [(3, .int x_5), (0, .ref h), (1, .int v), (2, .int b)]) hx hb dX8_offer_36 rfl hl (by decide) rfl (fun ls hl => ?_)
      refine lv_aload_n hx hb dX8_offer_37 rfl (lv_at hl 1 rfl) ?_
      refine va_get (D := D) (ci := 7) (v := .ref sl) (C := RX8) (T := TX8) (N := 16) hx hb hts (fun _ h => List.mem_cons_of_mem _ (List.mem_append_right _ h)) hown hK hP 0 rfl rfl 0 (by decide) (hts (.fieldLink RX8 7 "WinterWalkModel" "slot" "[I") (List.mem_of_getElem? (i := 3) rfl)) (fun _ h9 => h9) rfl dX8_offer_38 ?_
      refine lv_bipush (v := 23) hx hb dX8_offer_41 (by decide) ?_
      refine lv_iload_n hx hb dX8_offer_43 rfl (lv_at hl 2 rfl) ?_
      refine lv_iadd hx hb dX8_offer_44 ?_
      refine lv_topi (fun x_6 ex_6 => ?_)
      have e_6 : x_6.toInt = 23 + v.toInt := by rw [ex_6]; exact zi_add (by decide) (rfl) (by omega) (by omega)
      clear ex_6
      refine lv_iload_n hx hb dX8_offer_45 rfl (lv_at hl 3 rfl) ?_
      refine va_iast hx hb hK hP hD hS 1 0 rfl rfl (zi_in (by omega) (by omega)) dX8_offer_46 (fun H locs hP hD hS => ?_)
      have hP : va_P D kl [(h, .inr (7, [.ref sl, .int v3_1, .ref zs, .ref ln, .ref ir, .ref tk, .int su, .int le, .ref tb, .int fu, .int ap, .int pp, .ref tr, .int tc, .ref fz, .int nm])), (sl, .inl (cI, 1653, .inl (upd v3_0 (x_6 : Int32).toNatClampNeg b)))] H := hP
      have hD : va_D A [(h, .inr (7, [.ref sl, .int v3_1, .ref zs, .ref ln, .ref ir, .ref tk, .int su, .int le, .ref tb, .int fu, .int ap, .int pp, .ref tr, .int tc, .ref fz, .int nm])), (sl, .inl (cI, 1653, .inl (upd v3_0 (x_6 : Int32).toNatClampNeg b)))] := hD
      have ha_7 : SI (upd v3_0 (x_6 : Int32).toNatClampNeg b) v0 := si_up c3_3 (by omega) (fun s0 a0 b0 e0 => by omega) (fun s0 a0 b0 e0 => by omega) (fun s0 k0 a0 b0 c0 d0 e0 => by omega) (by omega)
      refine lv_iload_n hx hb dX8_offer_47 rfl (lv_at hl 0 rfl) ?_
      exact wr_i (v := x_5) hx hb hr hlocks hS ((upd v3_0 (x_6 : Int32).toNatClampNeg b), v3_1) (by exact ⟨show KS sf (upd v3_0 (x_6 : Int32).toNatClampNeg b) from KS.trans (KS.frm hsi c3_1 (by omega)) (KS.up c3_3 (by first | omega | decide)), show KA (upd v3_0 (x_6 : Int32).toNatClampNeg b) v3_1.toInt (kr sf 0) from KA.up c3_0 c3_3 (by first | omega | decide) (by omega), show 0 ≤ (v3_1 : Int32).toInt ∧ (v3_1 : Int32).toInt ≤ 24 from by omega, ha_7⟩) (hP.sub [0, 1] rfl) (hD.sub [0, 1] (by decide) rfl) dX8_offer_48
    · subst e_2
      have f_2 : ¬ ((0 : Int) ≤ b.toInt ∧ b.toInt ≤ (20 : Int)) := by
        have h8 := f_2
        try simp only [zl_of] at h8
        exact h8
      refine lv_if_ne (tgt := 23) hx hb dX8_offer_17 (by decide) (fun c9 => absurd (by decide) c9) (fun _ => ?_)
      refine lv_ldc (v := (-1000001)) hx hb hown (hts (.constant RX8 48 (-1000001)) (List.mem_of_getElem? (i := 2) rfl)) dX8_offer_20 ?_
      exact wr_i (v := (-1000001)) hx hb hr hlocks hS (sf, na) (by exact ⟨show KS sf sf from KS.refl, show KA sf na.toInt (kr sf 0) from h_ra, show 0 ≤ (na : Int32).toInt ∧ (na : Int32).toInt ≤ 24 from by omega, hsi⟩) (hP.sub [0, 1] rfl) (hD.sub [0, 1] (by decide) rfl) dX8_offer_22
  · subst e_1
    refine lv_if_eq (tgt := 20) hx hb dX8_offer_5 (by decide) (fun _ => ?_) (fun c9 => absurd (by decide) c9)
    refine lv_ldc (v := (-1000001)) hx hb hown (hts (.constant RX8 48 (-1000001)) (List.mem_of_getElem? (i := 2) rfl)) dX8_offer_20 ?_
    exact wr_i (v := (-1000001)) hx hb hr hlocks hS (sf, na) (by exact ⟨show KS sf sf from KS.refl, show KA sf na.toInt (kr sf 0) from h_ra, show 0 ≤ (na : Int32).toInt ∧ (na : Int32).toInt ≤ 24 from by omega, hsi⟩) (hP.sub [0, 1] rfl) (hD.sub [0, 1] (by decide) rfl) dX8_offer_22
set_option maxHeartbeats 4000000 in
set_option maxRecDepth 100000 in
theorem f_X8_door (l : Launch) (D : va_G) (cI cB cQ : ClassId) (sz : Nat) (h : Nat) (sl : Nat) (zs : Nat) (ln : Nat) (ir : Nat) (tk : Nat) (tb : Nat) (tr : Nat) (fz : Nat) (na : Int32) (su : Int32) (le : Int32) (fu : Int32) (ap : Int32) (pp : Int32) (tc : Int32) (nm : Int32) (v : Int32) (b : Int32) (sf : Nat → Int32) (v0 : Int) (hsi : SI sf v0) (h_na : 0 ≤ na.toInt ∧ na.toInt ≤ 24) (h_le : 0 ≤ le.toInt ∧ le.toInt ≤ 120) (h_ap : 0 ≤ ap.toInt ∧ ap.toInt ≤ 120) (h_tc : 0 ≤ tc.toInt ∧ tc.toInt ≤ 16) (h_pp : 0 ≤ pp.toInt ∧ pp.toInt ≤ 120) (h_ra : KA sf na.toInt (kr sf 0)) : mi l yX8_door wsX8_door ({ frames := 2, cells := 0, slots := 0, locals := 46 }) D cI cB cQ [.ref h, .int v, .int b] sz [(h, .inr (7, [.ref sl, .int na, .ref zs, .ref ln, .ref ir, .ref tk, .int su, .int le, .ref tb, .int fu, .int ap, .int pp, .ref tr, .int tc, .ref fz, .int nm])), (sl, .inl (cI, 1653, .inl sf))] (fun (r : Int32) (u : (Nat → Int32) × Int32) => (KS sf u.1) ∧ (KA u.1 u.2.toInt (kr sf 0)) ∧ (0 ≤ u.2.toInt ∧ u.2.toInt ≤ 24) ∧ (SI u.1 v0)) (fun u => [(h, .inr (7, [.ref sl, .int u.2, .ref zs, .ref ln, .ref ir, .ref tk, .int su, .int le, .ref tb, .int fu, .int ap, .int pp, .ref tr, .int tc, .ref fz, .int nm])), (sl, .inl (cI, 1653, .inl u.1))]) 0 0 := by
  refine wm_i (cc := cX8_door) (maxL := 3) (ret := (some .int)) (by decide) rfl (Nat.le_of_ble_eq_true rfl) ?_
  intro p e s m below meth c A ls hx hb hr hml hown hts hlocks hin hP hK hD hN hA hl hS
  have hown : s.vm.findClass RX8 = some m.cls := hown
  have hl : lv_has ls 3 [(0, .ref h), (1, .int v), (2, .int b)] := hl
  change W p l e ({ frames := 2, cells := 0, slots := 0, locals := 46 }) s m ([.ref h, .int v, .int b] : List Value).toArray below meth c s.heap [] 0 0 (MQ below (va_Qi (fun (r : Int32) (u : (Nat → Int32) × Int32) => (KS sf u.1) ∧ (KA u.1 u.2.toInt (kr sf 0)) ∧ (0 ≤ u.2.toInt ∧ u.2.toInt ≤ 24) ∧ (SI u.1 v0)) (fun u t => wb D A ((fun u => [(h, .inr (7, [.ref sl, .int u.2, .ref zs, .ref ln, .ref ir, .ref tk, .int su, .int le, .ref tb, .int fu, .int ap, .int pp, .ref tr, .int tc, .ref fz, .int nm])), (sl, .inl (cI, 1653, .inl u.1))]) u) t) A) ([.ref h, .int v, .int b] : List Value).toArray s 0 0 A) (F0 m 0 ls [])
  refine lv_aload_n hx hb dX8_door_0 rfl (lv_at hl 0 rfl) ?_
  refine lv_iload_n hx hb dX8_door_1 rfl (lv_at hl 1 rfl) ?_
  have k_1 := (g_X8_isVillageThere l D cI cB cQ s.heap.size h sl zs ln ir tk tb tr fz na su le fu ap pp tc nm v sf v0 hsi)
  refine wc_i (WC := [(h, .inr (7, [.ref sl, .int na, .ref zs, .ref ln, .ref ir, .ref tk, .int su, .int le, .ref tb, .int fu, .int ap, .int pp, .ref tr, .int tc, .ref fz, .int nm])), (sl, .inl (cI, 1653, .inl sf))]) (WR := []) (va_runV (As := [.int v]) (rest := []) ⟨hx, hb, hml, hown, hts⟩ k_1 (cwV 1 hts gX8_door_X8_isVillageThere rfl rfl rfl (by decide +kernel) ⟨Nat.le_of_ble_eq_true rfl, Nat.le_of_ble_eq_true rfl⟩) (wp_V hP hK hD hN [0, 1] (by decide) rfl (ci := 7) rfl rfl) rfl rfl hl.1 rfl (lv_room (Nat.le_of_ble_eq_true rfl)) dX8_door_2 ⟨Nat.le_of_ble_eq_true rfl, Nat.le_of_ble_eq_true rfl⟩) hP hD hS hA [0, 1] [] rfl rfl (by decide) (by decide) (fun r_1 u_1 H locs hw_1 hP hD hS => ?_)
  clear k_1
  have hP : va_P D kl [(h, .inr (7, [.ref sl, .int na, .ref zs, .ref ln, .ref ir, .ref tk, .int su, .int le, .ref tb, .int fu, .int ap, .int pp, .ref tr, .int tc, .ref fz, .int nm])), (sl, .inl (cI, 1653, .inl sf))] H := hP
  have hD : va_D A [(h, .inr (7, [.ref sl, .int na, .ref zs, .ref ln, .ref ir, .ref tk, .int su, .int le, .ref tb, .int fu, .int ap, .int pp, .ref tr, .int tc, .ref fz, .int nm])), (sl, .inl (cI, 1653, .inl sf))] := hD
  have c1_0 := hw_1
  rcases c1_0 with ⟨e_1, f_1⟩ | e_1
  · subst e_1
    have f_1 : 0 ≤ v.toInt ∧ v.toInt ≤ 7 ∧ v.toInt < v0 := f_1
    refine lv_if_eq (tgt := 18) hx hb dX8_door_5 (by decide) (fun c9 => absurd c9 (by decide)) (fun _ => ?_)
    refine lv_iload_n hx hb dX8_door_8 rfl (lv_at hl 2 rfl) ?_
    refine lv_i2l (v := (b.toInt64)) hx hb dX8_door_9 rfl ?_
    refine lv_lconst (v := 0) hx hb dX8_door_10 (by decide) ?_
    refine lv_lconst (v := 1) hx hb dX8_door_11 (by decide) ?_
    have k_2 := (g_X8_in l D cI cB cQ H.size (b.toInt64) 0 1)
    refine wc_i (WC := []) (WR := [(h, .inr (7, [.ref sl, .int na, .ref zs, .ref ln, .ref ir, .ref tk, .int su, .int le, .ref tb, .int fu, .int ap, .int pp, .ref tr, .int tc, .ref fz, .int nm])), (sl, .inl (cI, 1653, .inl sf))]) (va_runS (As := [.long (b.toInt64), .long 0, .long 1]) (rest := []) ⟨hx, hb, hml, hown, hts⟩ k_2 (va_cwS 3 hts gX8_door_X8_in rfl rfl rfl (by decide +kernel) ⟨Nat.le_of_ble_eq_true rfl, Nat.le_of_ble_eq_true rfl⟩) (wp_S hP hK hD hN [] (by decide) rfl) rfl rfl hl.1 rfl (lv_room (Nat.le_of_ble_eq_true rfl)) dX8_door_12 ⟨Nat.le_of_ble_eq_true rfl, Nat.le_of_ble_eq_true rfl⟩) hP hD hS hA [] [0, 1] rfl rfl (by decide) (by decide) (fun r_2 u_2 H locs hw_2 hP hD hS => ?_)
    clear k_2
    have hP : va_P D kl [(h, .inr (7, [.ref sl, .int na, .ref zs, .ref ln, .ref ir, .ref tk, .int su, .int le, .ref tb, .int fu, .int ap, .int pp, .ref tr, .int tc, .ref fz, .int nm])), (sl, .inl (cI, 1653, .inl sf))] H := hP
    have hD : va_D A [(h, .inr (7, [.ref sl, .int na, .ref zs, .ref ln, .ref ir, .ref tk, .int su, .int le, .ref tb, .int fu, .int ap, .int pp, .ref tr, .int tc, .ref fz, .int nm])), (sl, .inl (cI, 1653, .inl sf))] := hD
    have c2_0 := hw_2
    rcases c2_0 with ⟨e_2, f_2⟩ | ⟨e_2, f_2⟩
    · subst e_2
      have f_2 : (0 : Int) ≤ b.toInt ∧ b.toInt ≤ (1 : Int) := by
        have h8 := f_2
        try simp only [zl_of] at h8
        exact h8
      refine lv_if_ne (tgt := 21) hx hb dX8_door_15 (by decide) (fun _ => ?_) (fun c9 => absurd c9 (by decide))
      refine lv_aload_n hx hb dX8_door_21 rfl (lv_at hl 0 rfl) ?_
      refine va_get (D := D) (ci := 7) (v := .ref sl) (C := RX8) (T := TX8) (N := 16) hx hb hts (fun _ h => List.mem_cons_of_mem _ (List.mem_append_right _ h)) hown hK hP 0 rfl rfl 0 (by decide) (hts (.fieldLink RX8 7 "WinterWalkModel" "slot" "[I") (List.mem_of_getElem? (i := 2) rfl)) (fun _ h9 => h9) rfl dX8_door_22 ?_
      refine lv_bipush (v := 31) hx hb dX8_door_25 (by decide) ?_
      refine va_iald hx hb hK hP 1 0 rfl rfl (zi_in (by decide) (by decide)) dX8_door_27 ?_
      refine lv_topi (fun x_3 ex_3 => ?_)
      refine lv_iload_n hx hb dX8_door_28 rfl (lv_at hl 1 rfl) ?_
      refine lv_ishr hx hb dX8_door_29 ?_
      refine lv_topi (fun x_4 ex_4 => ?_)
      clear ex_4
      refine lv_iconst (v := 1) hx hb dX8_door_30 (by decide) ?_
      refine lv_iand hx hb dX8_door_31 ?_
      refine lv_topi (fun x_5 ex_5 => ?_)
      clear ex_5
      refine lv_iload_n hx hb dX8_door_32 rfl (lv_at hl 2 rfl) ?_
      refine lv_icmp_ne (tgt := 39) hx hb dX8_door_33 (by decide) (fun c_6 => ?_) (fun c_6 => ?_)
      · have f_6 : ¬ x_5.toInt = b.toInt := zi_ne c_6
        refine lv_aload_n hx hb dX8_door_39 rfl (lv_at hl 0 rfl) ?_
        have k_7 := (f_X8_known l D cI cB cQ H.size h sl zs ln ir tk tb tr fz na su le fu ap pp tc nm sf v0 hsi (by omega) (by omega) (by omega) (by omega) (by omega) (h_ra))
        refine wc_v (WC := [(h, .inr (7, [.ref sl, .int na, .ref zs, .ref ln, .ref ir, .ref tk, .int su, .int le, .ref tb, .int fu, .int ap, .int pp, .ref tr, .int tc, .ref fz, .int nm])), (sl, .inl (cI, 1653, .inl sf))]) (WR := []) (va_runV (As := []) (rest := []) ⟨hx, hb, hml, hown, hts⟩ k_7 (cwV 0 hts gX8_door_X8_known rfl rfl rfl (by decide +kernel) ⟨Nat.le_of_ble_eq_true rfl, Nat.le_of_ble_eq_true rfl⟩) (wp_V hP hK hD hN [0, 1] (by decide) rfl (ci := 7) rfl rfl) rfl rfl hl.1 rfl (lv_room (Nat.le_of_ble_eq_true rfl)) dX8_door_40 ⟨Nat.le_of_ble_eq_true rfl, Nat.le_of_ble_eq_true rfl⟩) hP hD hS hA [0, 1] [] rfl rfl (by decide) (by decide) (pe2 (fun v7_0 v7_1 H locs hw_7 hP hD hS => ?_))
        clear k_7
        have hP : va_P D kl [(h, .inr (7, [.ref sl, .int v7_1, .ref zs, .ref ln, .ref ir, .ref tk, .int su, .int le, .ref tb, .int fu, .int ap, .int pp, .ref tr, .int tc, .ref fz, .int nm])), (sl, .inl (cI, 1653, .inl v7_0))] H := hP
        have hD : va_D A [(h, .inr (7, [.ref sl, .int v7_1, .ref zs, .ref ln, .ref ir, .ref tk, .int su, .int le, .ref tb, .int fu, .int ap, .int pp, .ref tr, .int tc, .ref fz, .int nm])), (sl, .inl (cI, 1653, .inl v7_0))] := hD
        obtain ⟨c7_0, c7_1, c7_2, c7_3⟩ := hw_7
        have c7_0 : KA v7_0 v7_1.toInt (kr sf 0) := c7_0
        have c7_1 : FRM (171) (1539) sf v7_0 := c7_1
        have c7_2 : 0 ≤ v7_1.toInt ∧ v7_1.toInt ≤ 24 := c7_2
        have c7_3 : SI v7_0 v0 := c7_3
        refine lv_aload_n hx hb dX8_door_43 rfl (lv_at hl 0 rfl) ?_
        refine va_get (D := D) (ci := 7) (v := .ref sl) (C := RX8) (T := TX8) (N := 16) hx hb hts (fun _ h => List.mem_cons_of_mem _ (List.mem_append_right _ h)) hown hK hP 0 rfl rfl 0 (by decide) (hts (.fieldLink RX8 7 "WinterWalkModel" "slot" "[I") (List.mem_of_getElem? (i := 2) rfl)) (fun _ h9 => h9) rfl dX8_door_44 ?_
        refine lv_bipush (v := 31) hx hb dX8_door_47 (by decide) ?_
        refine lv_dup2_11 hx hb dX8_door_49 rfl rfl ?_
        refine va_iald hx hb hK hP 1 0 rfl rfl (zi_in (by decide) (by decide)) dX8_door_50 ?_
        refine lv_topi (fun x_8 ex_8 => ?_)
        refine lv_iconst (v := 1) hx hb dX8_door_51 (by decide) ?_
        refine lv_iload_n hx hb dX8_door_52 rfl (lv_at hl 1 rfl) ?_
        refine lv_ishl hx hb dX8_door_53 ?_
        refine lv_topi (fun x_9 ex_9 => ?_)
        have e_9 : 1 ≤ x_9.toInt ∧ x_9.toInt ≤ 256 := by rw [ex_9]; exact zi_sh (by omega)
        clear ex_9
        refine lv_ixor hx hb dX8_door_54 ?_
        refine lv_topi (fun x_10 ex_10 => ?_)
        clear ex_10
        refine va_iast hx hb hK hP hD hS 1 0 rfl rfl (zi_in (by decide) (by decide)) dX8_door_55 (fun H locs hP hD hS => ?_)
        have hP : va_P D kl [(h, .inr (7, [.ref sl, .int v7_1, .ref zs, .ref ln, .ref ir, .ref tk, .int su, .int le, .ref tb, .int fu, .int ap, .int pp, .ref tr, .int tc, .ref fz, .int nm])), (sl, .inl (cI, 1653, .inl (upd v7_0 (31 : Int32).toNatClampNeg x_10)))] H := hP
        have hD : va_D A [(h, .inr (7, [.ref sl, .int v7_1, .ref zs, .ref ln, .ref ir, .ref tk, .int su, .int le, .ref tb, .int fu, .int ap, .int pp, .ref tr, .int tc, .ref fz, .int nm])), (sl, .inl (cI, 1653, .inl (upd v7_0 (31 : Int32).toNatClampNeg x_10)))] := hD
        have hq_11 : (31 : Int32).toInt = 31 := by decide
        have ha_11 : SI (upd v7_0 (31 : Int32).toNatClampNeg x_10) v0 := si_up c7_3 (by omega) (fun s0 a0 b0 e0 => by omega) (fun s0 a0 b0 e0 => by omega) (fun s0 k0 a0 b0 c0 d0 e0 => by omega) (by omega)
        refine lv_aload_n hx hb dX8_door_56 rfl (lv_at hl 0 rfl) ?_
        refine va_get (D := D) (ci := 7) (v := .ref sl) (C := RX8) (T := TX8) (N := 16) hx hb hts (fun _ h => List.mem_cons_of_mem _ (List.mem_append_right _ h)) hown hK hP 0 rfl rfl 0 (by decide) (hts (.fieldLink RX8 7 "WinterWalkModel" "slot" "[I") (List.mem_of_getElem? (i := 2) rfl)) (fun _ h9 => h9) rfl dX8_door_57 ?_
        refine lv_bipush (v := 31) hx hb dX8_door_60 (by decide) ?_
        refine va_iald hx hb hK hP 1 0 rfl rfl (zi_in (by decide) (by decide)) dX8_door_62 ?_
        refine lv_topi (fun x_12 ex_12 => ?_)
        clear ex_12
        have k_13 := (g_X8_many l D cI cB cQ H.size x_12)
        refine wc_i (WC := []) (WR := [(h, .inr (7, [.ref sl, .int v7_1, .ref zs, .ref ln, .ref ir, .ref tk, .int su, .int le, .ref tb, .int fu, .int ap, .int pp, .ref tr, .int tc, .ref fz, .int nm])), (sl, .inl (cI, 1653, .inl (upd v7_0 (31 : Int32).toNatClampNeg x_10)))]) (va_runS (As := [.int x_12]) (rest := []) ⟨hx, hb, hml, hown, hts⟩ k_13 (va_cwS 1 hts gX8_door_X8_many rfl rfl rfl (by decide +kernel) ⟨Nat.le_of_ble_eq_true rfl, Nat.le_of_ble_eq_true rfl⟩) (wp_S hP hK hD hN [] (by decide) rfl) rfl rfl hl.1 rfl (lv_room (Nat.le_of_ble_eq_true rfl)) dX8_door_63 ⟨Nat.le_of_ble_eq_true rfl, Nat.le_of_ble_eq_true rfl⟩) hP hD hS hA [] [0, 1] rfl rfl (by decide) (by decide) (fun r_13 u_13 H locs hw_13 hP hD hS => ?_)
        clear k_13
        have hP : va_P D kl [(h, .inr (7, [.ref sl, .int v7_1, .ref zs, .ref ln, .ref ir, .ref tk, .int su, .int le, .ref tb, .int fu, .int ap, .int pp, .ref tr, .int tc, .ref fz, .int nm])), (sl, .inl (cI, 1653, .inl (upd v7_0 (31 : Int32).toNatClampNeg x_10)))] H := hP
        have hD : va_D A [(h, .inr (7, [.ref sl, .int v7_1, .ref zs, .ref ln, .ref ir, .ref tk, .int su, .int le, .ref tb, .int fu, .int ap, .int pp, .ref tr, .int tc, .ref fz, .int nm])), (sl, .inl (cI, 1653, .inl (upd v7_0 (31 : Int32).toNatClampNeg x_10)))] := hD
        clear hw_13
        exact wr_i (v := r_13) hx hb hr hlocks hS ((upd v7_0 (31 : Int32).toNatClampNeg x_10), v7_1) (by exact ⟨show KS sf (upd v7_0 (31 : Int32).toNatClampNeg x_10) from KS.trans (KS.frm hsi c7_1 (by omega)) (KS.up c7_3 (by first | omega | decide)), show KA (upd v7_0 (31 : Int32).toNatClampNeg x_10) v7_1.toInt (kr sf 0) from KA.up c7_0 c7_3 (by first | omega | decide) (by omega), show 0 ≤ (v7_1 : Int32).toInt ∧ (v7_1 : Int32).toInt ≤ 24 from by omega, ha_11⟩) (hP.sub [0, 1] rfl) (hD.sub [0, 1] (by decide) rfl) dX8_door_66
      · have f_6 : x_5.toInt = b.toInt := zi_eq c_6
        refine lv_ldc (v := (-1000002)) hx hb hown (hts (.constant RX8 121 (-1000002)) (List.mem_of_getElem? (i := 3) rfl)) dX8_door_36 ?_
        exact wr_i (v := (-1000002)) hx hb hr hlocks hS (sf, na) (by exact ⟨show KS sf sf from KS.refl, show KA sf na.toInt (kr sf 0) from h_ra, show 0 ≤ (na : Int32).toInt ∧ (na : Int32).toInt ≤ 24 from by omega, hsi⟩) (hP.sub [0, 1] rfl) (hD.sub [0, 1] (by decide) rfl) dX8_door_38
    · subst e_2
      have f_2 : ¬ ((0 : Int) ≤ b.toInt ∧ b.toInt ≤ (1 : Int)) := by
        have h8 := f_2
        try simp only [zl_of] at h8
        exact h8
      refine lv_if_ne (tgt := 21) hx hb dX8_door_15 (by decide) (fun c9 => absurd (by decide) c9) (fun _ => ?_)
      refine lv_ldc (v := (-1000001)) hx hb hown (hts (.constant RX8 48 (-1000001)) (List.mem_of_getElem? (i := 1) rfl)) dX8_door_18 ?_
      exact wr_i (v := (-1000001)) hx hb hr hlocks hS (sf, na) (by exact ⟨show KS sf sf from KS.refl, show KA sf na.toInt (kr sf 0) from h_ra, show 0 ≤ (na : Int32).toInt ∧ (na : Int32).toInt ≤ 24 from by omega, hsi⟩) (hP.sub [0, 1] rfl) (hD.sub [0, 1] (by decide) rfl) dX8_door_20
  · subst e_1
    refine lv_if_eq (tgt := 18) hx hb dX8_door_5 (by decide) (fun _ => ?_) (fun c9 => absurd (by decide) c9)
    refine lv_ldc (v := (-1000001)) hx hb hown (hts (.constant RX8 48 (-1000001)) (List.mem_of_getElem? (i := 1) rfl)) dX8_door_18 ?_
    exact wr_i (v := (-1000001)) hx hb hr hlocks hS (sf, na) (by exact ⟨show KS sf sf from KS.refl, show KA sf na.toInt (kr sf 0) from h_ra, show 0 ≤ (na : Int32).toInt ∧ (na : Int32).toInt ≤ 24 from by omega, hsi⟩) (hP.sub [0, 1] rfl) (hD.sub [0, 1] (by decide) rfl) dX8_door_20
set_option maxHeartbeats 4000000 in
set_option maxRecDepth 100000 in
theorem f_X8_image (l : Launch) (D : va_G) (cI cB cQ : ClassId) (sz : Nat) (h : Nat) (sl : Nat) (zs : Nat) (ln : Nat) (ir : Nat) (tk : Nat) (tb : Nat) (tr : Nat) (fz : Nat) (na : Int32) (su : Int32) (le : Int32) (fu : Int32) (ap : Int32) (pp : Int32) (tc : Int32) (nm : Int32) (k : Int32) (sf : Nat → Int32) (v0 : Int) (hsi : SI sf v0) (h_na : 0 ≤ na.toInt ∧ na.toInt ≤ 24) (h_le : 0 ≤ le.toInt ∧ le.toInt ≤ 120) (h_ap : 0 ≤ ap.toInt ∧ ap.toInt ≤ 120) (h_tc : 0 ≤ tc.toInt ∧ tc.toInt ≤ 16) (h_pp : 0 ≤ pp.toInt ∧ pp.toInt ≤ 120) (h_ra : KA sf na.toInt (kr sf 0)) : mi l yX8_image wsX8_image ({ frames := 1, cells := 0, slots := 0, locals := 25 }) D cI cB cQ [.ref h, .int k] sz [(h, .inr (7, [.ref sl, .int na, .ref zs, .ref ln, .ref ir, .ref tk, .int su, .int le, .ref tb, .int fu, .int ap, .int pp, .ref tr, .int tc, .ref fz, .int nm])), (sl, .inl (cI, 1653, .inl sf))] (fun (r : Int32) (u : (Nat → Int32)) => (IMR k.toInt v0 r.toInt sf u) ∧ (KA u na.toInt (kr sf 0)) ∧ (SI u v0)) (fun u => [(h, .inr (7, [.ref sl, .int na, .ref zs, .ref ln, .ref ir, .ref tk, .int su, .int le, .ref tb, .int fu, .int ap, .int pp, .ref tr, .int tc, .ref fz, .int nm])), (sl, .inl (cI, 1653, .inl u))]) 0 0 := by
  refine wm_i (cc := cX8_image) (maxL := 2) (ret := (some .int)) (by decide) rfl (Nat.le_of_ble_eq_true rfl) ?_
  intro p e s m below meth c A ls hx hb hr hml hown hts hlocks hin hP hK hD hN hA hl hS
  have hown : s.vm.findClass RX8 = some m.cls := hown
  have hl : lv_has ls 2 [(0, .ref h), (1, .int k)] := hl
  change W p l e ({ frames := 1, cells := 0, slots := 0, locals := 25 }) s m ([.ref h, .int k] : List Value).toArray below meth c s.heap [] 0 0 (MQ below (va_Qi (fun (r : Int32) (u : (Nat → Int32)) => (IMR k.toInt v0 r.toInt sf u) ∧ (KA u na.toInt (kr sf 0)) ∧ (SI u v0)) (fun u t => wb D A ((fun u => [(h, .inr (7, [.ref sl, .int na, .ref zs, .ref ln, .ref ir, .ref tk, .int su, .int le, .ref tb, .int fu, .int ap, .int pp, .ref tr, .int tc, .ref fz, .int nm])), (sl, .inl (cI, 1653, .inl u))]) u) t) A) ([.ref h, .int k] : List Value).toArray s 0 0 A) (F0 m 0 ls [])
  refine lv_iload_n hx hb dX8_image_0 rfl (lv_at hl 1 rfl) ?_
  refine lv_i2l (v := (k.toInt64)) hx hb dX8_image_1 rfl ?_
  refine lv_lconst (v := 0) hx hb dX8_image_2 (by decide) ?_
  refine lv_lconst (v := 1) hx hb dX8_image_3 (by decide) ?_
  have k_1 := (g_X8_in l D cI cB cQ s.heap.size (k.toInt64) 0 1)
  refine wc_i (WC := []) (WR := [(h, .inr (7, [.ref sl, .int na, .ref zs, .ref ln, .ref ir, .ref tk, .int su, .int le, .ref tb, .int fu, .int ap, .int pp, .ref tr, .int tc, .ref fz, .int nm])), (sl, .inl (cI, 1653, .inl sf))]) (va_runS (As := [.long (k.toInt64), .long 0, .long 1]) (rest := []) ⟨hx, hb, hml, hown, hts⟩ k_1 (va_cwS 3 hts gX8_image_X8_in rfl rfl rfl (by decide +kernel) ⟨Nat.le_of_ble_eq_true rfl, Nat.le_of_ble_eq_true rfl⟩) (wp_S hP hK hD hN [] (by decide) rfl) rfl rfl hl.1 rfl (lv_room (Nat.le_of_ble_eq_true rfl)) dX8_image_4 ⟨Nat.le_of_ble_eq_true rfl, Nat.le_of_ble_eq_true rfl⟩) hP hD hS hA [] [0, 1] rfl rfl (by decide) (by decide) (fun r_1 u_1 H locs hw_1 hP hD hS => ?_)
  clear k_1
  have hP : va_P D kl [(h, .inr (7, [.ref sl, .int na, .ref zs, .ref ln, .ref ir, .ref tk, .int su, .int le, .ref tb, .int fu, .int ap, .int pp, .ref tr, .int tc, .ref fz, .int nm])), (sl, .inl (cI, 1653, .inl sf))] H := hP
  have hD : va_D A [(h, .inr (7, [.ref sl, .int na, .ref zs, .ref ln, .ref ir, .ref tk, .int su, .int le, .ref tb, .int fu, .int ap, .int pp, .ref tr, .int tc, .ref fz, .int nm])), (sl, .inl (cI, 1653, .inl sf))] := hD
  have c1_0 := hw_1
  rcases c1_0 with ⟨e_1, f_1⟩ | ⟨e_1, f_1⟩
  · subst e_1
    have f_1 : (0 : Int) ≤ k.toInt ∧ k.toInt ≤ (1 : Int) := by
      have h8 := f_1
      try simp only [zl_of] at h8
      exact h8
    refine lv_if_ne (tgt := 13) hx hb dX8_image_7 (by decide) (fun _ => ?_) (fun c9 => absurd c9 (by decide))
    refine lv_aload_n hx hb dX8_image_13 rfl (lv_at hl 0 rfl) ?_
    refine va_get (D := D) (ci := 7) (v := .ref sl) (C := RX8) (T := TX8) (N := 16) hx hb hts (fun _ h => List.mem_cons_of_mem _ (List.mem_append_right _ h)) hown hK hP 0 rfl rfl 0 (by decide) (hts (.fieldLink RX8 7 "WinterWalkModel" "slot" "[I") (List.mem_of_getElem? (i := 2) rfl)) (fun _ h9 => h9) rfl dX8_image_14 ?_
    refine lv_iconst (v := 1) hx hb dX8_image_17 (by decide) ?_
    refine va_iald hx hb hK hP 1 0 rfl rfl (zi_in (by decide) (by decide)) dX8_image_18 ?_
    refine lv_topi (fun x_2 ex_2 => ?_)
    have f_2 : 0 ≤ x_2.toInt ∧ x_2.toInt ≤ 8 := by rw [ex_2]; exact si_v hsi (s := 0) (by decide) (by omega)
    have g_2 : x_2.toInt = v0 := by rw [ex_2]; exact hsi.2
    refine lv_if_ne (tgt := 25) hx hb dX8_image_19 (by decide) (fun c_3 => ?_) (fun c_3 => ?_)
    · have f_3 : ¬ x_2.toInt = 0 := zi_ne c_3
      refine lv_aload_n hx hb dX8_image_25 rfl (lv_at hl 0 rfl) ?_
      refine lv_iconst (v := 0) hx hb dX8_image_26 (by decide) ?_
      refine lv_iload_n hx hb dX8_image_27 rfl (lv_at hl 1 rfl) ?_
      refine lv_iconst (v := 1) hx hb dX8_image_28 (by decide) ?_
      refine lv_iadd hx hb dX8_image_29 ?_
      refine lv_topi (fun x_4 ex_4 => ?_)
      have e_4 : x_4.toInt = k.toInt + 1 := by rw [ex_4]; exact zi_add (rfl) (by decide) (by omega) (by omega)
      clear ex_4
      have k_5 := (f_X8_copies l D cI cB cQ H.size h sl zs ln ir tk tb tr fz na su le fu ap pp tc nm 0 x_4 sf v0 hsi ⟨by decide, by decide⟩ (by omega) (by have hk0 : (0 : Int32).toInt = 0 := (by decide); omega))
      refine wc_v (WC := [(h, .inr (7, [.ref sl, .int na, .ref zs, .ref ln, .ref ir, .ref tk, .int su, .int le, .ref tb, .int fu, .int ap, .int pp, .ref tr, .int tc, .ref fz, .int nm])), (sl, .inl (cI, 1653, .inl sf))]) (WR := []) (va_runV (As := [.int 0, .int x_4]) (rest := []) ⟨hx, hb, hml, hown, hts⟩ k_5 (cwV 2 hts gX8_image_X8_copies rfl rfl rfl (by decide +kernel) ⟨Nat.le_of_ble_eq_true rfl, Nat.le_of_ble_eq_true rfl⟩) (wp_V hP hK hD hN [0, 1] (by decide) rfl (ci := 7) rfl rfl) rfl rfl hl.1 rfl (lv_room (Nat.le_of_ble_eq_true rfl)) dX8_image_30 ⟨Nat.le_of_ble_eq_true rfl, Nat.le_of_ble_eq_true rfl⟩) hP hD hS hA [0, 1] [] rfl rfl (by decide) (by decide) (fun u_5 H locs hw_5 hP hD hS => ?_)
      clear k_5
      have hP : va_P D kl [(h, .inr (7, [.ref sl, .int na, .ref zs, .ref ln, .ref ir, .ref tk, .int su, .int le, .ref tb, .int fu, .int ap, .int pp, .ref tr, .int tc, .ref fz, .int nm])), (sl, .inl (cI, 1653, .inl u_5))] H := hP
      have hD : va_D A [(h, .inr (7, [.ref sl, .int na, .ref zs, .ref ln, .ref ir, .ref tk, .int su, .int le, .ref tb, .int fu, .int ap, .int pp, .ref tr, .int tc, .ref fz, .int nm])), (sl, .inl (cI, 1653, .inl u_5))] := hD
      obtain ⟨c5_0, c5_1, c5_2⟩ := hw_5
      have c5_0 : ∀ q : Nat, q < 57 → u_5 (57 * x_4.toInt.toNat + q) = sf (57 * (0 : Int).toNat + q) := c5_0
      have c5_1 : FRM ((57 * x_4.toInt)) ((57 * x_4.toInt + 57)) sf u_5 := c5_1
      have c5_2 : SI u_5 v0 := c5_2
      refine lv_iconst (v := 1) hx hb dX8_image_33 (by decide) ?_
      exact wr_i (v := 1) hx hb hr hlocks hS u_5 (by exact ⟨show IMR k.toInt v0 1 sf u_5 from Or.inl ⟨by omega, by omega, by decide, KI.of hsi (by omega) (by omega) c5_0 c5_1⟩, show KA u_5 na.toInt (kr sf 0) from KA.frm h_ra hsi c5_1 (by omega) (by omega), c5_2⟩) (hP.sub [0, 1] rfl) (hD.sub [0, 1] (by decide) rfl) dX8_image_34
    · have f_3 : x_2.toInt = 0 := zi_eq c_3
      refine lv_ldc (v := (-1000002)) hx hb hown (hts (.constant RX8 121 (-1000002)) (List.mem_of_getElem? (i := 3) rfl)) dX8_image_22 ?_
      exact wr_i (v := (-1000002)) hx hb hr hlocks hS sf (by exact ⟨show IMR k.toInt v0 (-1000002) sf sf from Or.inr (Or.inr ⟨by omega, by omega, by decide, rfl⟩), show KA sf na.toInt (kr sf 0) from h_ra, hsi⟩) (hP.sub [0, 1] rfl) (hD.sub [0, 1] (by decide) rfl) dX8_image_24
  · subst e_1
    have f_1 : ¬ ((0 : Int) ≤ k.toInt ∧ k.toInt ≤ (1 : Int)) := by
      have h8 := f_1
      try simp only [zl_of] at h8
      exact h8
    refine lv_if_ne (tgt := 13) hx hb dX8_image_7 (by decide) (fun c9 => absurd (by decide) c9) (fun _ => ?_)
    refine lv_ldc (v := (-1000001)) hx hb hown (hts (.constant RX8 48 (-1000001)) (List.mem_of_getElem? (i := 1) rfl)) dX8_image_10 ?_
    exact wr_i (v := (-1000001)) hx hb hr hlocks hS sf (by exact ⟨show IMR k.toInt v0 (-1000001) sf sf from Or.inr (Or.inl ⟨by omega, by decide, rfl⟩), show KA sf na.toInt (kr sf 0) from h_ra, hsi⟩) (hP.sub [0, 1] rfl) (hD.sub [0, 1] (by decide) rfl) dX8_image_12
set_option maxHeartbeats 4000000 in
set_option maxRecDepth 100000 in
theorem f_X8_restore (l : Launch) (D : va_G) (cI cB cQ : ClassId) (sz : Nat) (h : Nat) (sl : Nat) (zs : Nat) (ln : Nat) (ir : Nat) (tk : Nat) (tb : Nat) (tr : Nat) (fz : Nat) (na : Int32) (su : Int32) (le : Int32) (fu : Int32) (ap : Int32) (pp : Int32) (tc : Int32) (nm : Int32) (k : Int32) (sf : Nat → Int32) (v0 : Int) (hsi : SI sf v0) (h_na : 0 ≤ na.toInt ∧ na.toInt ≤ 24) (h_le : 0 ≤ le.toInt ∧ le.toInt ≤ 120) (h_ap : 0 ≤ ap.toInt ∧ ap.toInt ≤ 120) (h_tc : 0 ≤ tc.toInt ∧ tc.toInt ≤ 16) (h_pp : 0 ≤ pp.toInt ∧ pp.toInt ≤ 120) : mi l yX8_restore wsX8_restore ({ frames := 1, cells := 0, slots := 0, locals := 25 }) D cI cB cQ [.ref h, .int k] sz [(h, .inr (7, [.ref sl, .int na, .ref zs, .ref ln, .ref ir, .ref tk, .int su, .int le, .ref tb, .int fu, .int ap, .int pp, .ref tr, .int tc, .ref fz, .int nm])), (sl, .inl (cI, 1653, .inl sf))] (fun (r : Int32) (u : Int32 × (Nat → Int32)) => (RSR k.toInt r.toInt sf u.2 na.toInt u.1.toInt) ∧ (0 ≤ u.1.toInt ∧ u.1.toInt ≤ 24) ∧ (SI u.2 ((u.2 1).toInt))) (fun u => [(h, .inr (7, [.ref sl, .int u.1, .ref zs, .ref ln, .ref ir, .ref tk, .int su, .int le, .ref tb, .int fu, .int ap, .int pp, .ref tr, .int tc, .ref fz, .int nm])), (sl, .inl (cI, 1653, .inl u.2))]) 0 0 := by
  refine wm_i (cc := cX8_restore) (maxL := 2) (ret := (some .int)) (by decide) rfl (Nat.le_of_ble_eq_true rfl) ?_
  intro p e s m below meth c A ls hx hb hr hml hown hts hlocks hin hP hK hD hN hA hl hS
  have hown : s.vm.findClass RX8 = some m.cls := hown
  have hl : lv_has ls 2 [(0, .ref h), (1, .int k)] := hl
  change W p l e ({ frames := 1, cells := 0, slots := 0, locals := 25 }) s m ([.ref h, .int k] : List Value).toArray below meth c s.heap [] 0 0 (MQ below (va_Qi (fun (r : Int32) (u : Int32 × (Nat → Int32)) => (RSR k.toInt r.toInt sf u.2 na.toInt u.1.toInt) ∧ (0 ≤ u.1.toInt ∧ u.1.toInt ≤ 24) ∧ (SI u.2 ((u.2 1).toInt))) (fun u t => wb D A ((fun u => [(h, .inr (7, [.ref sl, .int u.1, .ref zs, .ref ln, .ref ir, .ref tk, .int su, .int le, .ref tb, .int fu, .int ap, .int pp, .ref tr, .int tc, .ref fz, .int nm])), (sl, .inl (cI, 1653, .inl u.2))]) u) t) A) ([.ref h, .int k] : List Value).toArray s 0 0 A) (F0 m 0 ls [])
  refine lv_iload_n hx hb dX8_restore_0 rfl (lv_at hl 1 rfl) ?_
  refine lv_i2l (v := (k.toInt64)) hx hb dX8_restore_1 rfl ?_
  refine lv_lconst (v := 0) hx hb dX8_restore_2 (by decide) ?_
  refine lv_lconst (v := 1) hx hb dX8_restore_3 (by decide) ?_
  have k_1 := (g_X8_in l D cI cB cQ s.heap.size (k.toInt64) 0 1)
  refine wc_i (WC := []) (WR := [(h, .inr (7, [.ref sl, .int na, .ref zs, .ref ln, .ref ir, .ref tk, .int su, .int le, .ref tb, .int fu, .int ap, .int pp, .ref tr, .int tc, .ref fz, .int nm])), (sl, .inl (cI, 1653, .inl sf))]) (va_runS (As := [.long (k.toInt64), .long 0, .long 1]) (rest := []) ⟨hx, hb, hml, hown, hts⟩ k_1 (va_cwS 3 hts gX8_restore_X8_in rfl rfl rfl (by decide +kernel) ⟨Nat.le_of_ble_eq_true rfl, Nat.le_of_ble_eq_true rfl⟩) (wp_S hP hK hD hN [] (by decide) rfl) rfl rfl hl.1 rfl (lv_room (Nat.le_of_ble_eq_true rfl)) dX8_restore_4 ⟨Nat.le_of_ble_eq_true rfl, Nat.le_of_ble_eq_true rfl⟩) hP hD hS hA [] [0, 1] rfl rfl (by decide) (by decide) (fun r_1 u_1 H locs hw_1 hP hD hS => ?_)
  clear k_1
  have hP : va_P D kl [(h, .inr (7, [.ref sl, .int na, .ref zs, .ref ln, .ref ir, .ref tk, .int su, .int le, .ref tb, .int fu, .int ap, .int pp, .ref tr, .int tc, .ref fz, .int nm])), (sl, .inl (cI, 1653, .inl sf))] H := hP
  have hD : va_D A [(h, .inr (7, [.ref sl, .int na, .ref zs, .ref ln, .ref ir, .ref tk, .int su, .int le, .ref tb, .int fu, .int ap, .int pp, .ref tr, .int tc, .ref fz, .int nm])), (sl, .inl (cI, 1653, .inl sf))] := hD
  have c1_0 := hw_1
  rcases c1_0 with ⟨e_1, f_1⟩ | ⟨e_1, f_1⟩
  · subst e_1
    have f_1 : (0 : Int) ≤ k.toInt ∧ k.toInt ≤ (1 : Int) := by
      have h8 := f_1
      try simp only [zl_of] at h8
      exact h8
    refine lv_if_ne (tgt := 13) hx hb dX8_restore_7 (by decide) (fun _ => ?_) (fun c9 => absurd c9 (by decide))
    refine lv_aload_n hx hb dX8_restore_13 rfl (lv_at hl 0 rfl) ?_
    refine va_get (D := D) (ci := 7) (v := .ref sl) (C := RX8) (T := TX8) (N := 16) hx hb hts (fun _ h => List.mem_cons_of_mem _ (List.mem_append_right _ h)) hown hK hP 0 rfl rfl 0 (by decide) (hts (.fieldLink RX8 7 "WinterWalkModel" "slot" "[I") (List.mem_of_getElem? (i := 2) rfl)) (fun _ h9 => h9) rfl dX8_restore_14 ?_
    refine lv_iload_n hx hb dX8_restore_17 rfl (lv_at hl 1 rfl) ?_
    refine lv_iconst (v := 1) hx hb dX8_restore_18 (by decide) ?_
    refine lv_iadd hx hb dX8_restore_19 ?_
    refine lv_topi (fun x_2 ex_2 => ?_)
    have e_2 : x_2.toInt = k.toInt + 1 := by rw [ex_2]; exact zi_add (rfl) (by decide) (by omega) (by omega)
    clear ex_2
    refine lv_bipush (v := 57) hx hb dX8_restore_20 (by decide) ?_
    refine lv_imul hx hb dX8_restore_22 ?_
    refine lv_topi (fun x_3 ex_3 => ?_)
    have e_3 : x_3.toInt = x_2.toInt * 57 := by rw [ex_3]; exact zi_mul (rfl) (by decide) (by omega) (by omega)
    clear ex_3
    refine lv_iconst (v := 1) hx hb dX8_restore_23 (by decide) ?_
    refine lv_iadd hx hb dX8_restore_24 ?_
    refine lv_topi (fun x_4 ex_4 => ?_)
    have e_4 : x_4.toInt = x_3.toInt + 1 := by rw [ex_4]; exact zi_add (rfl) (by decide) (by omega) (by omega)
    clear ex_4
    refine va_iald hx hb hK hP 1 0 rfl rfl (zi_in (by omega) (by omega)) dX8_restore_25 ?_
    refine lv_topi (fun x_5 ex_5 => ?_)
    have f_5 : 0 ≤ x_5.toInt ∧ x_5.toInt ≤ 8 := by rw [ex_5]; exact si_v hsi (s := k.toInt + 1) (by omega) (by omega)
    refine lv_if_ne (tgt := 32) hx hb dX8_restore_26 (by decide) (fun c_6 => ?_) (fun c_6 => ?_)
    · have f_6 : ¬ x_5.toInt = 0 := zi_ne c_6
      refine lv_aload_n hx hb dX8_restore_32 rfl (lv_at hl 0 rfl) ?_
      refine lv_iload_n hx hb dX8_restore_33 rfl (lv_at hl 1 rfl) ?_
      refine lv_iconst (v := 1) hx hb dX8_restore_34 (by decide) ?_
      refine lv_iadd hx hb dX8_restore_35 ?_
      refine lv_topi (fun x_7 ex_7 => ?_)
      have e_7 : x_7.toInt = k.toInt + 1 := by rw [ex_7]; exact zi_add (rfl) (by decide) (by omega) (by omega)
      clear ex_7
      refine lv_iconst (v := 0) hx hb dX8_restore_36 (by decide) ?_
      have k_8 := (f_X8_copies0 l D cI cB cQ H.size h sl zs ln ir tk tb tr fz na su le fu ap pp tc nm x_7 sf v0 hsi (by omega))
      refine wc_v (WC := [(h, .inr (7, [.ref sl, .int na, .ref zs, .ref ln, .ref ir, .ref tk, .int su, .int le, .ref tb, .int fu, .int ap, .int pp, .ref tr, .int tc, .ref fz, .int nm])), (sl, .inl (cI, 1653, .inl sf))]) (WR := []) (va_runV (As := [.int x_7, .int 0]) (rest := []) ⟨hx, hb, hml, hown, hts⟩ k_8 (cwV 2 hts gX8_restore_X8_copies rfl rfl rfl (by decide +kernel) ⟨Nat.le_of_ble_eq_true rfl, Nat.le_of_ble_eq_true rfl⟩) (wp_V hP hK hD hN [0, 1] (by decide) rfl (ci := 7) rfl rfl) rfl rfl hl.1 rfl (lv_room (Nat.le_of_ble_eq_true rfl)) dX8_restore_37 ⟨Nat.le_of_ble_eq_true rfl, Nat.le_of_ble_eq_true rfl⟩) hP hD hS hA [0, 1] [] rfl rfl (by decide) (by decide) (fun u_8 H locs hw_8 hP hD hS => ?_)
      clear k_8
      have hP : va_P D kl [(h, .inr (7, [.ref sl, .int na, .ref zs, .ref ln, .ref ir, .ref tk, .int su, .int le, .ref tb, .int fu, .int ap, .int pp, .ref tr, .int tc, .ref fz, .int nm])), (sl, .inl (cI, 1653, .inl u_8))] H := hP
      have hD : va_D A [(h, .inr (7, [.ref sl, .int na, .ref zs, .ref ln, .ref ir, .ref tk, .int su, .int le, .ref tb, .int fu, .int ap, .int pp, .ref tr, .int tc, .ref fz, .int nm])), (sl, .inl (cI, 1653, .inl u_8))] := hD
      obtain ⟨c8_0, c8_1, c8_2⟩ := hw_8
      have c8_0 : ∀ q : Nat, q < 57 → u_8 q = sf (57 * x_7.toInt.toNat + q) := c8_0
      have c8_1 : FRM (0) (57) sf u_8 := c8_1
      have c8_2 : SI u_8 ((u_8 1).toInt) := c8_2
      refine lv_aload_n hx hb dX8_restore_40 rfl (lv_at hl 0 rfl) ?_
      refine lv_iconst (v := 0) hx hb dX8_restore_41 (by decide) ?_
      refine va_put (D := D) (ci := 7) (v := .int 0) (ty := .int) (C := RX8) (T := TX8) (N := 16) hx hb hts (fun _ h => List.mem_cons_of_mem _ (List.mem_append_right _ h)) tyX8 tyX8_ok nmX8 hown hK hP hD hS 0 rfl rfl 1 (by decide) (hts (.fieldLink RX8 118 "WinterWalkModel" "acts" "I") (List.mem_of_getElem? (i := 4) rfl)) (fun _ h9 => h9) rfl (by decide +kernel) rfl rfl (Nat.le_of_ble_eq_true rfl) dX8_restore_42 (fun H locs hP hD hS => ?_)
      have hP : va_P D kl [(h, .inr (7, [.ref sl, .int 0, .ref zs, .ref ln, .ref ir, .ref tk, .int su, .int le, .ref tb, .int fu, .int ap, .int pp, .ref tr, .int tc, .ref fz, .int nm])), (sl, .inl (cI, 1653, .inl u_8))] H := hP
      have hD : va_D A [(h, .inr (7, [.ref sl, .int 0, .ref zs, .ref ln, .ref ir, .ref tk, .int su, .int le, .ref tb, .int fu, .int ap, .int pp, .ref tr, .int tc, .ref fz, .int nm])), (sl, .inl (cI, 1653, .inl u_8))] := hD
      refine lv_iconst (v := 1) hx hb dX8_restore_45 (by decide) ?_
      exact wr_i (v := 1) hx hb hr hlocks hS (0, u_8) (by exact ⟨show RSR k.toInt 1 sf u_8 na.toInt 0 from Or.inl ⟨by omega, (fun h9 => absurd (((kr1_at (i := x_4) (a := k.toInt + 1) (by omega) (by omega)).trans (congrArg Int32.toInt ex_5.symm)).symm.trans h9) (by omega)), by decide, (kr_copy0 hsi (by omega) c8_0).trans (congrArg (kr sf) (by omega)), c8_1, by first | omega | decide⟩, show 0 ≤ (0 : Int32).toInt ∧ (0 : Int32).toInt ≤ 24 from ⟨by decide, by decide⟩, SI.self c8_2⟩) (hP.sub [0, 1] rfl) (hD.sub [0, 1] (by decide) rfl) dX8_restore_46
    · have f_6 : x_5.toInt = 0 := zi_eq c_6
      refine lv_ldc (v := (-1000002)) hx hb hown (hts (.constant RX8 121 (-1000002)) (List.mem_of_getElem? (i := 3) rfl)) dX8_restore_29 ?_
      exact wr_i (v := (-1000002)) hx hb hr hlocks hS (na, sf) (by exact ⟨show RSR k.toInt (-1000002) sf sf na.toInt na.toInt from Or.inr (Or.inr ⟨by omega, ((kr1_at (i := x_4) (a := k.toInt + 1) (by omega) (by omega)).trans (congrArg Int32.toInt ex_5.symm)).trans (by omega), by decide, rfl, rfl⟩), show 0 ≤ (na : Int32).toInt ∧ (na : Int32).toInt ≤ 24 from by omega, SI.self hsi⟩) (hP.sub [0, 1] rfl) (hD.sub [0, 1] (by decide) rfl) dX8_restore_31
  · subst e_1
    have f_1 : ¬ ((0 : Int) ≤ k.toInt ∧ k.toInt ≤ (1 : Int)) := by
      have h8 := f_1
      try simp only [zl_of] at h8
      exact h8
    refine lv_if_ne (tgt := 13) hx hb dX8_restore_7 (by decide) (fun c9 => absurd (by decide) c9) (fun _ => ?_)
    refine lv_ldc (v := (-1000001)) hx hb hown (hts (.constant RX8 48 (-1000001)) (List.mem_of_getElem? (i := 1) rfl)) dX8_restore_10 ?_
    exact wr_i (v := (-1000001)) hx hb hr hlocks hS (na, sf) (by exact ⟨show RSR k.toInt (-1000001) sf sf na.toInt na.toInt from Or.inr (Or.inl ⟨by omega, by decide, rfl, rfl⟩), show 0 ≤ (na : Int32).toInt ∧ (na : Int32).toInt ≤ 24 from by omega, SI.self hsi⟩) (hP.sub [0, 1] rfl) (hD.sub [0, 1] (by decide) rfl) dX8_restore_12
set_option maxHeartbeats 4000000 in
set_option maxRecDepth 100000 in
theorem f_X8_land (l : Launch) (D : va_G) (cI cB cQ : ClassId) (sz : Nat) (h : Nat) (sl : Nat) (zs : Nat) (ln : Nat) (ir : Nat) (tk : Nat) (tb : Nat) (tr : Nat) (fz : Nat) (na : Int32) (su : Int32) (le : Int32) (fu : Int32) (ap : Int32) (pp : Int32) (tc : Int32) (nm : Int32) (sf : Nat → Int32) (tbf : Nat → Int32) (v0 : Int) (hsi : SI sf v0) (h_na : 0 ≤ na.toInt ∧ na.toInt ≤ 24) (h_le : 0 ≤ le.toInt ∧ le.toInt ≤ 120) (h_ap : 0 ≤ ap.toInt ∧ ap.toInt ≤ 120) (h_tc : 0 ≤ tc.toInt ∧ tc.toInt ≤ 16) (h_pp : 0 ≤ pp.toInt ∧ pp.toInt ≤ 120) (h_ra : KA sf na.toInt (kr sf 0)) : mi l yX8_land wsX8_land ({ frames := 4, cells := 0, slots := 0, locals := 97 }) D cI cB cQ [.ref h] sz [(h, .inr (7, [.ref sl, .int na, .ref zs, .ref ln, .ref ir, .ref tk, .int su, .int le, .ref tb, .int fu, .int ap, .int pp, .ref tr, .int tc, .ref fz, .int nm])), (sl, .inl (cI, 1653, .inl sf)), (tb, .inl (cB, 120, .inl tbf))] (fun (r : Int32) (u : Int32 × Int32 × Int32 × Int32 × Int32 × Int32 × (Nat → Int32)) => (u.2.1.toInt = 0) ∧ (u.2.2.1.toInt = (tpA (tbr tbf le.toInt) le.toInt fu.toInt pp.toInt).1.2.1 ∧ u.2.2.2.2.1.toInt = (tpA (tbr tbf le.toInt) le.toInt fu.toInt pp.toInt).1.2.2.1) ∧ (((tpA (tbr tbf le.toInt) le.toInt fu.toInt pp.toInt).1.1 = 0 ∧ r.toInt = (tpA (tbr tbf le.toInt) le.toInt fu.toInt pp.toInt).2.1) ∨ (¬ (tpA (tbr tbf le.toInt) le.toInt fu.toInt pp.toInt).1.1 = 0 ∧ r.toInt = (-1000100) - (tpA (tbr tbf le.toInt) le.toInt fu.toInt pp.toInt).1.2.2.1)) ∧ (LDR (tpA (tbr tbf le.toInt) le.toInt fu.toInt pp.toInt).1.1 (kof (tpA (tbr tbf le.toInt) le.toInt fu.toInt pp.toInt).2) sf u.2.2.2.2.2.2 na.toInt u.1.toInt) ∧ (0 ≤ u.1.toInt ∧ u.1.toInt ≤ 24) ∧ (0 ≤ u.2.1.toInt ∧ u.2.1.toInt ≤ 120) ∧ (0 ≤ u.2.2.2.1.toInt ∧ u.2.2.2.1.toInt ≤ 120) ∧ (0 ≤ u.2.2.2.2.1.toInt ∧ u.2.2.2.2.1.toInt ≤ 120) ∧ (SI u.2.2.2.2.2.2 ((u.2.2.2.2.2.2 1).toInt))) (fun u => [(h, .inr (7, [.ref sl, .int u.1, .ref zs, .ref ln, .ref ir, .ref tk, .int su, .int u.2.1, .ref tb, .int u.2.2.1, .int u.2.2.2.1, .int u.2.2.2.2.1, .ref tr, .int tc, .ref fz, .int u.2.2.2.2.2.1])), (sl, .inl (cI, 1653, .inl u.2.2.2.2.2.2)), (tb, .inl (cB, 120, .inl tbf))]) 0 0 := by
  refine wm_i (cc := cX8_land) (maxL := 2) (ret := (some .int)) (by decide) rfl (Nat.le_of_ble_eq_true rfl) ?_
  intro p e s m below meth c A ls hx hb hr hml hown hts hlocks hin hP hK hD hN hA hl hS
  have hown : s.vm.findClass RX8 = some m.cls := hown
  have hl : lv_has ls 2 [(0, .ref h)] := hl
  change W p l e ({ frames := 4, cells := 0, slots := 0, locals := 97 }) s m ([.ref h] : List Value).toArray below meth c s.heap [] 0 0 (MQ below (va_Qi (fun (r : Int32) (u : Int32 × Int32 × Int32 × Int32 × Int32 × Int32 × (Nat → Int32)) => (u.2.1.toInt = 0) ∧ (u.2.2.1.toInt = (tpA (tbr tbf le.toInt) le.toInt fu.toInt pp.toInt).1.2.1 ∧ u.2.2.2.2.1.toInt = (tpA (tbr tbf le.toInt) le.toInt fu.toInt pp.toInt).1.2.2.1) ∧ (((tpA (tbr tbf le.toInt) le.toInt fu.toInt pp.toInt).1.1 = 0 ∧ r.toInt = (tpA (tbr tbf le.toInt) le.toInt fu.toInt pp.toInt).2.1) ∨ (¬ (tpA (tbr tbf le.toInt) le.toInt fu.toInt pp.toInt).1.1 = 0 ∧ r.toInt = (-1000100) - (tpA (tbr tbf le.toInt) le.toInt fu.toInt pp.toInt).1.2.2.1)) ∧ (LDR (tpA (tbr tbf le.toInt) le.toInt fu.toInt pp.toInt).1.1 (kof (tpA (tbr tbf le.toInt) le.toInt fu.toInt pp.toInt).2) sf u.2.2.2.2.2.2 na.toInt u.1.toInt) ∧ (0 ≤ u.1.toInt ∧ u.1.toInt ≤ 24) ∧ (0 ≤ u.2.1.toInt ∧ u.2.1.toInt ≤ 120) ∧ (0 ≤ u.2.2.2.1.toInt ∧ u.2.2.2.1.toInt ≤ 120) ∧ (0 ≤ u.2.2.2.2.1.toInt ∧ u.2.2.2.2.1.toInt ≤ 120) ∧ (SI u.2.2.2.2.2.2 ((u.2.2.2.2.2.2 1).toInt))) (fun u t => wb D A ((fun u => [(h, .inr (7, [.ref sl, .int u.1, .ref zs, .ref ln, .ref ir, .ref tk, .int su, .int u.2.1, .ref tb, .int u.2.2.1, .int u.2.2.2.1, .int u.2.2.2.2.1, .ref tr, .int tc, .ref fz, .int u.2.2.2.2.2.1])), (sl, .inl (cI, 1653, .inl u.2.2.2.2.2.2)), (tb, .inl (cB, 120, .inl tbf))]) u) t) A) ([.ref h] : List Value).toArray s 0 0 A) (F0 m 0 ls [])
  refine lv_aload_n hx hb dX8_land_0 rfl (lv_at hl 0 rfl) ?_
  have k_1 := (p_X8_isLand l D cI cB cQ s.heap.size h sl zs ln ir tk tb tr fz na su le fu ap pp tc nm sf tbf v0 hsi (by omega) (by omega) (by omega) (by omega) (by omega))
  refine wc_i (WC := [(h, .inr (7, [.ref sl, .int na, .ref zs, .ref ln, .ref ir, .ref tk, .int su, .int le, .ref tb, .int fu, .int ap, .int pp, .ref tr, .int tc, .ref fz, .int nm])), (sl, .inl (cI, 1653, .inl sf)), (tb, .inl (cB, 120, .inl tbf))]) (WR := []) (va_runV (As := []) (rest := []) ⟨hx, hb, hml, hown, hts⟩ k_1 (cwV 0 hts gX8_land_X8_isLand rfl rfl rfl (by decide +kernel) ⟨Nat.le_of_ble_eq_true rfl, Nat.le_of_ble_eq_true rfl⟩) (wp_V hP hK hD hN [0, 1, 2] (by decide) rfl (ci := 7) rfl rfl) rfl rfl hl.1 rfl (lv_room (Nat.le_of_ble_eq_true rfl)) dX8_land_1 ⟨Nat.le_of_ble_eq_true rfl, Nat.le_of_ble_eq_true rfl⟩) hP hD hS hA [0, 1, 2] [] rfl rfl (by decide) (by decide) (fun r_1 => pe5 (fun v1_0 v1_1 v1_2 v1_3 v1_4 H locs hw_1 hP hD hS => ?_))
  clear k_1
  have hP : va_P D kl [(h, .inr (7, [.ref sl, .int na, .ref zs, .ref ln, .ref ir, .ref tk, .int su, .int le, .ref tb, .int v1_0, .int v1_1, .int v1_2, .ref tr, .int tc, .ref fz, .int v1_3])), (sl, .inl (cI, 1653, .inl v1_4)), (tb, .inl (cB, 120, .inl tbf))] H := hP
  have hD : va_D A [(h, .inr (7, [.ref sl, .int na, .ref zs, .ref ln, .ref ir, .ref tk, .int su, .int le, .ref tb, .int v1_0, .int v1_1, .int v1_2, .ref tr, .int tc, .ref fz, .int v1_3])), (sl, .inl (cI, 1653, .inl v1_4)), (tb, .inl (cB, 120, .inl tbf))] := hD
  obtain ⟨c1_0, c1_1, c1_2, c1_3, c1_4⟩ := hw_1
  have c1_1 : FRM (1596) (1653) sf v1_4 := c1_1
  have c1_2 : 0 ≤ v1_1.toInt ∧ v1_1.toInt ≤ 120 := c1_2
  have c1_3 : 0 ≤ v1_2.toInt ∧ v1_2.toInt ≤ 120 := c1_3
  have c1_4 : SI v1_4 v0 := c1_4
  rcases c1_0 with ⟨e_1, f_1⟩ | ⟨e_1, f_1⟩
  · subst e_1
    have f_1 : ((tpA (tbr tbf le.toInt) le.toInt fu.toInt pp.toInt).1.1 = 0 ∧ (tpA (tbr tbf le.toInt) le.toInt fu.toInt pp.toInt).1.2.1 = v1_0.toInt ∧ (tpA (tbr tbf le.toInt) le.toInt fu.toInt pp.toInt).1.2.2.1 = v1_2.toInt ∧ (tpA (tbr tbf le.toInt) le.toInt fu.toInt pp.toInt).2.1 = (ur v1_4).1) ∧ ((((0, v1_0.toInt, v1_2.toInt, v1_1.toInt) : TPS), ur v1_4) : TPT) = (tpA (tbr tbf le.toInt) le.toInt fu.toInt pp.toInt) := f_1
    refine lv_istore_n (lv' := [(1, .int 1), (0, .ref h)]) hx hb dX8_land_4 rfl hl (by decide) rfl (fun ls hl => ?_)
    refine lv_aload_n hx hb dX8_land_5 rfl (lv_at hl 1 rfl) ?_
    refine lv_iconst (v := 0) hx hb dX8_land_6 (by decide) ?_
    refine va_put (D := D) (ci := 7) (v := .int 0) (ty := .int) (C := RX8) (T := TX8) (N := 16) hx hb hts (fun _ h => List.mem_cons_of_mem _ (List.mem_append_right _ h)) tyX8 tyX8_ok nmX8 hown hK hP hD hS 0 rfl rfl 7 (by decide) (hts (.fieldLink RX8 58 "WinterWalkModel" "length" "I") (List.mem_of_getElem? (i := 1) rfl)) (fun _ h9 => h9) rfl (by decide +kernel) rfl rfl (Nat.le_of_ble_eq_true rfl) dX8_land_7 (fun H locs hP hD hS => ?_)
    have hP : va_P D kl [(h, .inr (7, [.ref sl, .int na, .ref zs, .ref ln, .ref ir, .ref tk, .int su, .int 0, .ref tb, .int v1_0, .int v1_1, .int v1_2, .ref tr, .int tc, .ref fz, .int v1_3])), (sl, .inl (cI, 1653, .inl v1_4)), (tb, .inl (cB, 120, .inl tbf))] H := hP
    have hD : va_D A [(h, .inr (7, [.ref sl, .int na, .ref zs, .ref ln, .ref ir, .ref tk, .int su, .int 0, .ref tb, .int v1_0, .int v1_1, .int v1_2, .ref tr, .int tc, .ref fz, .int v1_3])), (sl, .inl (cI, 1653, .inl v1_4)), (tb, .inl (cB, 120, .inl tbf))] := hD
    refine lv_iload_n hx hb dX8_land_10 rfl (lv_at hl 0 rfl) ?_
    refine lv_if_ne (tgt := 22) hx hb dX8_land_11 (by decide) (fun _ => ?_) (fun c9 => absurd c9 (by decide))
    refine lv_aload_n hx hb dX8_land_22 rfl (lv_at hl 1 rfl) ?_
    refine lv_bipush (v := 28) hx hb dX8_land_23 (by decide) ?_
    refine lv_iconst (v := 0) hx hb dX8_land_25 (by decide) ?_
    have k_2 := (f_X8_copies0 l D cI cB cQ H.size h sl zs ln ir tk tb tr fz na su 0 v1_0 v1_1 v1_2 tc v1_3 28 v1_4 v0 c1_4 ⟨by decide, by decide⟩)
    refine wc_v (WC := [(h, .inr (7, [.ref sl, .int na, .ref zs, .ref ln, .ref ir, .ref tk, .int su, .int 0, .ref tb, .int v1_0, .int v1_1, .int v1_2, .ref tr, .int tc, .ref fz, .int v1_3])), (sl, .inl (cI, 1653, .inl v1_4))]) (WR := [(tb, .inl (cB, 120, .inl tbf))]) (va_runV (As := [.int 28, .int 0]) (rest := []) ⟨hx, hb, hml, hown, hts⟩ k_2 (cwV 2 hts gX8_land_X8_copies rfl rfl rfl (by decide +kernel) ⟨Nat.le_of_ble_eq_true rfl, Nat.le_of_ble_eq_true rfl⟩) (wp_V hP hK hD hN [0, 1] (by decide) rfl (ci := 7) rfl rfl) rfl rfl hl.1 rfl (lv_room (Nat.le_of_ble_eq_true rfl)) dX8_land_26 ⟨Nat.le_of_ble_eq_true rfl, Nat.le_of_ble_eq_true rfl⟩) hP hD hS hA [0, 1] [2] rfl rfl (by decide) (by decide) (fun u_2 H locs hw_2 hP hD hS => ?_)
    clear k_2
    have hP : va_P D kl [(tb, .inl (cB, 120, .inl tbf)), (h, .inr (7, [.ref sl, .int na, .ref zs, .ref ln, .ref ir, .ref tk, .int su, .int 0, .ref tb, .int v1_0, .int v1_1, .int v1_2, .ref tr, .int tc, .ref fz, .int v1_3])), (sl, .inl (cI, 1653, .inl u_2))] H := hP
    have hD : va_D A [(tb, .inl (cB, 120, .inl tbf)), (h, .inr (7, [.ref sl, .int na, .ref zs, .ref ln, .ref ir, .ref tk, .int su, .int 0, .ref tb, .int v1_0, .int v1_1, .int v1_2, .ref tr, .int tc, .ref fz, .int v1_3])), (sl, .inl (cI, 1653, .inl u_2))] := hD
    obtain ⟨c2_0, c2_1, c2_2⟩ := hw_2
    have c2_0 : ∀ q : Nat, q < 57 → u_2 q = v1_4 (57 * (28 : Int).toNat + q) := c2_0
    have c2_1 : FRM (0) (57) v1_4 u_2 := c2_1
    have c2_2 : SI u_2 ((u_2 1).toInt) := c2_2
    have hc_2 : (u_2 1).toInt = (ur v1_4).1 := congrArg Int32.toInt ((c2_0 1 (by decide)).trans (by rw [show 57 * (28 : Int).toNat + 1 = 1597 from by decide]))
    refine lv_aload_n hx hb dX8_land_29 rfl (lv_at hl 1 rfl) ?_
    refine lv_iconst (v := 0) hx hb dX8_land_30 (by decide) ?_
    refine va_put (D := D) (ci := 7) (v := .int 0) (ty := .int) (C := RX8) (T := TX8) (N := 16) hx hb hts (fun _ h => List.mem_cons_of_mem _ (List.mem_append_right _ h)) tyX8 tyX8_ok nmX8 hown hK hP hD hS 1 rfl rfl 1 (by decide) (hts (.fieldLink RX8 118 "WinterWalkModel" "acts" "I") (List.mem_of_getElem? (i := 4) rfl)) (fun _ h9 => h9) rfl (by decide +kernel) rfl rfl (Nat.le_of_ble_eq_true rfl) dX8_land_31 (fun H locs hP hD hS => ?_)
    have hP : va_P D kl [(tb, .inl (cB, 120, .inl tbf)), (h, .inr (7, [.ref sl, .int 0, .ref zs, .ref ln, .ref ir, .ref tk, .int su, .int 0, .ref tb, .int v1_0, .int v1_1, .int v1_2, .ref tr, .int tc, .ref fz, .int v1_3])), (sl, .inl (cI, 1653, .inl u_2))] H := hP
    have hD : va_D A [(tb, .inl (cB, 120, .inl tbf)), (h, .inr (7, [.ref sl, .int 0, .ref zs, .ref ln, .ref ir, .ref tk, .int su, .int 0, .ref tb, .int v1_0, .int v1_1, .int v1_2, .ref tr, .int tc, .ref fz, .int v1_3])), (sl, .inl (cI, 1653, .inl u_2))] := hD
    refine lv_aload_n hx hb dX8_land_34 rfl (lv_at hl 1 rfl) ?_
    refine va_get (D := D) (ci := 7) (v := .ref sl) (C := RX8) (T := TX8) (N := 16) hx hb hts (fun _ h => List.mem_cons_of_mem _ (List.mem_append_right _ h)) hown hK hP 1 rfl rfl 0 (by decide) (hts (.fieldLink RX8 7 "WinterWalkModel" "slot" "[I") (List.mem_of_getElem? (i := 5) rfl)) (fun _ h9 => h9) rfl dX8_land_35 ?_
    refine lv_iconst (v := 1) hx hb dX8_land_38 (by decide) ?_
    refine va_iald hx hb hK hP 2 0 rfl rfl (zi_in (by decide) (by decide)) dX8_land_39 ?_
    refine lv_topi (fun x_3 ex_3 => ?_)
    have f_3 : 0 ≤ x_3.toInt ∧ x_3.toInt ≤ 8 := by rw [ex_3]; exact si_v c2_2 (s := 0) (by decide) (by omega)
    have g_3 : x_3.toInt = (u_2 1).toInt := by rw [ex_3]; exact c2_2.2
    exact wr_i (v := x_3) hx hb hr hlocks hS (0, 0, v1_0, v1_1, v1_2, v1_3, u_2) (by exact ⟨show 0 = 0 from by omega, show v1_0.toInt = (tpA (tbr tbf le.toInt) le.toInt fu.toInt pp.toInt).1.2.1 ∧ v1_2.toInt = (tpA (tbr tbf le.toInt) le.toInt fu.toInt pp.toInt).1.2.2.1 from by omega, show ((tpA (tbr tbf le.toInt) le.toInt fu.toInt pp.toInt).1.1 = 0 ∧ x_3.toInt = (tpA (tbr tbf le.toInt) le.toInt fu.toInt pp.toInt).2.1) ∨ (¬ (tpA (tbr tbf le.toInt) le.toInt fu.toInt pp.toInt).1.1 = 0 ∧ x_3.toInt = (-1000100) - (tpA (tbr tbf le.toInt) le.toInt fu.toInt pp.toInt).1.2.2.1) from by omega, show LDR (tpA (tbr tbf le.toInt) le.toInt fu.toInt pp.toInt).1.1 (kof (tpA (tbr tbf le.toInt) le.toInt fu.toInt pp.toInt).2) sf u_2 na.toInt 0 from ⟨fun a h0 h1 => (kr_frm c1_4 c2_1 (by omega) (by omega)).trans (kr_frm hsi c1_1 (by omega) (by omega)), KA.zero (by first | omega | decide), Or.inl ⟨f_1.1.1, (kr_land c1_4 c2_0).trans (congrArg (fun s : TPT => kof s.2) f_1.2)⟩⟩, show 0 ≤ (0 : Int32).toInt ∧ (0 : Int32).toInt ≤ 24 from ⟨by decide, by decide⟩, show 0 ≤ (0 : Int32).toInt ∧ (0 : Int32).toInt ≤ 120 from ⟨by decide, by decide⟩, show 0 ≤ (v1_1 : Int32).toInt ∧ (v1_1 : Int32).toInt ≤ 120 from by omega, show 0 ≤ (v1_2 : Int32).toInt ∧ (v1_2 : Int32).toInt ≤ 120 from by omega, SI.self c2_2⟩) (hP.sub [1, 2, 0] rfl) (hD.sub [1, 2, 0] (by decide) rfl) dX8_land_40
  · subst e_1
    have f_1 : (tpA (tbr tbf le.toInt) le.toInt fu.toInt pp.toInt).1.1 = 1 ∧ (tpA (tbr tbf le.toInt) le.toInt fu.toInt pp.toInt).1.2.1 = v1_0.toInt ∧ (tpA (tbr tbf le.toInt) le.toInt fu.toInt pp.toInt).1.2.2.1 = v1_2.toInt := f_1
    refine lv_istore_n (lv' := [(1, .int 0), (0, .ref h)]) hx hb dX8_land_4 rfl hl (by decide) rfl (fun ls hl => ?_)
    refine lv_aload_n hx hb dX8_land_5 rfl (lv_at hl 1 rfl) ?_
    refine lv_iconst (v := 0) hx hb dX8_land_6 (by decide) ?_
    refine va_put (D := D) (ci := 7) (v := .int 0) (ty := .int) (C := RX8) (T := TX8) (N := 16) hx hb hts (fun _ h => List.mem_cons_of_mem _ (List.mem_append_right _ h)) tyX8 tyX8_ok nmX8 hown hK hP hD hS 0 rfl rfl 7 (by decide) (hts (.fieldLink RX8 58 "WinterWalkModel" "length" "I") (List.mem_of_getElem? (i := 1) rfl)) (fun _ h9 => h9) rfl (by decide +kernel) rfl rfl (Nat.le_of_ble_eq_true rfl) dX8_land_7 (fun H locs hP hD hS => ?_)
    have hP : va_P D kl [(h, .inr (7, [.ref sl, .int na, .ref zs, .ref ln, .ref ir, .ref tk, .int su, .int 0, .ref tb, .int v1_0, .int v1_1, .int v1_2, .ref tr, .int tc, .ref fz, .int v1_3])), (sl, .inl (cI, 1653, .inl v1_4)), (tb, .inl (cB, 120, .inl tbf))] H := hP
    have hD : va_D A [(h, .inr (7, [.ref sl, .int na, .ref zs, .ref ln, .ref ir, .ref tk, .int su, .int 0, .ref tb, .int v1_0, .int v1_1, .int v1_2, .ref tr, .int tc, .ref fz, .int v1_3])), (sl, .inl (cI, 1653, .inl v1_4)), (tb, .inl (cB, 120, .inl tbf))] := hD
    refine lv_iload_n hx hb dX8_land_10 rfl (lv_at hl 0 rfl) ?_
    refine lv_if_ne (tgt := 22) hx hb dX8_land_11 (by decide) (fun c9 => absurd (by decide) c9) (fun _ => ?_)
    refine lv_ldc (v := (-1000100)) hx hb hown (hts (.constant RX8 113 (-1000100)) (List.mem_of_getElem? (i := 2) rfl)) dX8_land_14 ?_
    refine lv_aload_n hx hb dX8_land_16 rfl (lv_at hl 1 rfl) ?_
    refine va_get (D := D) (ci := 7) (v := .int v1_2) (C := RX8) (T := TX8) (N := 16) hx hb hts (fun _ h => List.mem_cons_of_mem _ (List.mem_append_right _ h)) hown hK hP 0 rfl rfl 11 (by decide) (hts (.fieldLink RX8 68 "WinterWalkModel" "place" "I") (List.mem_of_getElem? (i := 3) rfl)) (fun _ h9 => h9) rfl dX8_land_17 ?_
    refine lv_isub hx hb dX8_land_20 ?_
    refine lv_topi (fun x_4 ex_4 => ?_)
    have e_4 : x_4.toInt = (-1000100) - v1_2.toInt := by rw [ex_4]; exact zi_sub (by decide) (rfl) (by omega) (by omega)
    clear ex_4
    exact wr_i (v := x_4) hx hb hr hlocks hS (na, 0, v1_0, v1_1, v1_2, v1_3, v1_4) (by exact ⟨show 0 = 0 from by omega, show v1_0.toInt = (tpA (tbr tbf le.toInt) le.toInt fu.toInt pp.toInt).1.2.1 ∧ v1_2.toInt = (tpA (tbr tbf le.toInt) le.toInt fu.toInt pp.toInt).1.2.2.1 from by omega, show ((tpA (tbr tbf le.toInt) le.toInt fu.toInt pp.toInt).1.1 = 0 ∧ x_4.toInt = (tpA (tbr tbf le.toInt) le.toInt fu.toInt pp.toInt).2.1) ∨ (¬ (tpA (tbr tbf le.toInt) le.toInt fu.toInt pp.toInt).1.1 = 0 ∧ x_4.toInt = (-1000100) - (tpA (tbr tbf le.toInt) le.toInt fu.toInt pp.toInt).1.2.2.1) from by omega, show LDR (tpA (tbr tbf le.toInt) le.toInt fu.toInt pp.toInt).1.1 (kof (tpA (tbr tbf le.toInt) le.toInt fu.toInt pp.toInt).2) sf v1_4 na.toInt na.toInt from ⟨fun a h0 h1 => kr_frm hsi c1_1 (by omega) (by omega), by rw [kr_frm (a := 0) hsi c1_1 (by omega) (by omega)]; exact KA.frm h_ra hsi c1_1 (by omega) (by omega), Or.inr ⟨by omega, kr_frm hsi c1_1 (by omega) (by omega)⟩⟩, show 0 ≤ (na : Int32).toInt ∧ (na : Int32).toInt ≤ 24 from by omega, show 0 ≤ (0 : Int32).toInt ∧ (0 : Int32).toInt ≤ 120 from ⟨by decide, by decide⟩, show 0 ≤ (v1_1 : Int32).toInt ∧ (v1_1 : Int32).toInt ≤ 120 from by omega, show 0 ≤ (v1_2 : Int32).toInt ∧ (v1_2 : Int32).toInt ≤ 120 from by omega, SI.self c1_4⟩) (hP.sub [0, 1, 2] rfl) (hD.sub [0, 1, 2] (by decide) rfl) dX8_land_21
set_option maxHeartbeats 4000000 in
set_option maxRecDepth 100000 in
theorem f_X8_isWalkerThere (l : Launch) (D : va_G) (cI cB cQ : ClassId) (sz : Nat) (h : Nat) (sl : Nat) (zs : Nat) (ln : Nat) (ir : Nat) (tk : Nat) (tb : Nat) (tr : Nat) (fz : Nat) (na : Int32) (su : Int32) (le : Int32) (fu : Int32) (ap : Int32) (pp : Int32) (tc : Int32) (nm : Int32) (v : Int32) (sf : Nat → Int32) (v0 : Int) (hsi : SI sf v0) : mi l yX8_isWalkerThere wsX8_isWalkerThere ({ frames := 1, cells := 0, slots := 0, locals := 25 }) D cI cB cQ [.ref h, .int v] sz [(h, .inr (7, [.ref sl, .int na, .ref zs, .ref ln, .ref ir, .ref tk, .int su, .int le, .ref tb, .int fu, .int ap, .int pp, .ref tr, .int tc, .ref fz, .int nm])), (sl, .inl (cI, 1653, .inl sf))] (fun (r : Int32) (_u : Unit) => ((r = 1 ∧ 0 ≤ v.toInt ∧ v.toInt ≤ 2 ∧ v.toInt < (sf 2).toInt) ∨ (r = 0 ∧ ¬ (0 ≤ v.toInt ∧ v.toInt < (sf 2).toInt)))) (fun _ => [(h, .inr (7, [.ref sl, .int na, .ref zs, .ref ln, .ref ir, .ref tk, .int su, .int le, .ref tb, .int fu, .int ap, .int pp, .ref tr, .int tc, .ref fz, .int nm])), (sl, .inl (cI, 1653, .inl sf))]) 0 0 := by
  refine wm_i (cc := cX8_isWalkerThere) (maxL := 2) (ret := (some .boolean)) (by decide) rfl (Nat.le_of_ble_eq_true rfl) ?_
  intro p e s m below meth c A ls hx hb hr hml hown hts hlocks hin hP hK hD hN hA hl hS
  have hown : s.vm.findClass RX8 = some m.cls := hown
  have hl : lv_has ls 2 [(0, .ref h), (1, .int v)] := hl
  change W p l e ({ frames := 1, cells := 0, slots := 0, locals := 25 }) s m ([.ref h, .int v] : List Value).toArray below meth c s.heap [] 0 0 (MQ below (va_Qi (fun (r : Int32) (_u : Unit) => ((r = 1 ∧ 0 ≤ v.toInt ∧ v.toInt ≤ 2 ∧ v.toInt < (sf 2).toInt) ∨ (r = 0 ∧ ¬ (0 ≤ v.toInt ∧ v.toInt < (sf 2).toInt)))) (fun u t => wb D A ((fun _ => [(h, .inr (7, [.ref sl, .int na, .ref zs, .ref ln, .ref ir, .ref tk, .int su, .int le, .ref tb, .int fu, .int ap, .int pp, .ref tr, .int tc, .ref fz, .int nm])), (sl, .inl (cI, 1653, .inl sf))]) u) t) A) ([.ref h, .int v] : List Value).toArray s 0 0 A) (F0 m 0 ls [])
  refine lv_iload_n hx hb dX8_isWalkerThere_0 rfl (lv_at hl 1 rfl) ?_
  refine lv_i2l (v := (v.toInt64)) hx hb dX8_isWalkerThere_1 rfl ?_
  refine lv_lconst (v := 0) hx hb dX8_isWalkerThere_2 (by decide) ?_
  refine lv_aload_n hx hb dX8_isWalkerThere_3 rfl (lv_at hl 0 rfl) ?_
  refine va_get (D := D) (ci := 7) (v := .ref sl) (C := RX8) (T := TX8) (N := 16) hx hb hts (fun _ h => List.mem_cons_of_mem _ (List.mem_append_right _ h)) hown hK hP 0 rfl rfl 0 (by decide) (hts (.fieldLink RX8 7 "WinterWalkModel" "slot" "[I") (List.mem_of_getElem? (i := 1) rfl)) (fun _ h9 => h9) rfl dX8_isWalkerThere_4 ?_
  refine lv_iconst (v := 2) hx hb dX8_isWalkerThere_7 (by decide) ?_
  refine va_iald hx hb hK hP 1 0 rfl rfl (zi_in (by decide) (by decide)) dX8_isWalkerThere_8 ?_
  refine lv_topi (fun x_1 ex_1 => ?_)
  have f_1 : 0 ≤ x_1.toInt ∧ x_1.toInt ≤ 3 := by rw [ex_1]; exact si_w hsi (s := 0) (by decide) (by omega)
  refine lv_iconst (v := 1) hx hb dX8_isWalkerThere_9 (by decide) ?_
  refine lv_isub hx hb dX8_isWalkerThere_10 ?_
  refine lv_topi (fun x_2 ex_2 => ?_)
  have e_2 : x_2.toInt = x_1.toInt - 1 := by rw [ex_2]; exact zi_sub (rfl) (by decide) (by omega) (by omega)
  clear ex_2
  refine lv_i2l (v := (x_2.toInt64)) hx hb dX8_isWalkerThere_11 rfl ?_
  have k_3 := (g_X8_in l D cI cB cQ s.heap.size (v.toInt64) 0 (x_2.toInt64))
  refine wc_i (WC := []) (WR := [(h, .inr (7, [.ref sl, .int na, .ref zs, .ref ln, .ref ir, .ref tk, .int su, .int le, .ref tb, .int fu, .int ap, .int pp, .ref tr, .int tc, .ref fz, .int nm])), (sl, .inl (cI, 1653, .inl sf))]) (va_runS (As := [.long (v.toInt64), .long 0, .long (x_2.toInt64)]) (rest := []) ⟨hx, hb, hml, hown, hts⟩ k_3 (va_cwS 3 hts gX8_isWalkerThere_X8_in rfl rfl rfl (by decide +kernel) ⟨Nat.le_of_ble_eq_true rfl, Nat.le_of_ble_eq_true rfl⟩) (wp_S hP hK hD hN [] (by decide) rfl) rfl rfl hl.1 rfl (lv_room (Nat.le_of_ble_eq_true rfl)) dX8_isWalkerThere_12 ⟨Nat.le_of_ble_eq_true rfl, Nat.le_of_ble_eq_true rfl⟩) hP hD hS hA [] [0, 1] rfl rfl (by decide) (by decide) (fun r_3 u_3 H locs hw_3 hP hD hS => ?_)
  clear k_3
  have hP : va_P D kl [(h, .inr (7, [.ref sl, .int na, .ref zs, .ref ln, .ref ir, .ref tk, .int su, .int le, .ref tb, .int fu, .int ap, .int pp, .ref tr, .int tc, .ref fz, .int nm])), (sl, .inl (cI, 1653, .inl sf))] H := hP
  have hD : va_D A [(h, .inr (7, [.ref sl, .int na, .ref zs, .ref ln, .ref ir, .ref tk, .int su, .int le, .ref tb, .int fu, .int ap, .int pp, .ref tr, .int tc, .ref fz, .int nm])), (sl, .inl (cI, 1653, .inl sf))] := hD
  have c3_0 := hw_3
  rcases c3_0 with ⟨e_3, f_3⟩ | ⟨e_3, f_3⟩
  · subst e_3
    have f_3 : (0 : Int) ≤ v.toInt ∧ v.toInt ≤ x_2.toInt := by
      have h8 := f_3
      try simp only [zl_of] at h8
      exact h8
    exact wr_z (v := 1) hx hb hr hlocks hS () (by exact Or.inl ⟨rfl, show 0 ≤ v.toInt ∧ v.toInt ≤ 2 ∧ v.toInt < (sf 2).toInt from by have hk2 : x_1.toInt = (sf 2).toInt := congrArg Int32.toInt ex_1; omega⟩) (hP.sub [0, 1] rfl) (hD.sub [0, 1] (by decide) rfl) dX8_isWalkerThere_15 rfl
  · subst e_3
    have f_3 : ¬ ((0 : Int) ≤ v.toInt ∧ v.toInt ≤ x_2.toInt) := by
      have h8 := f_3
      try simp only [zl_of] at h8
      exact h8
    exact wr_z (v := 0) hx hb hr hlocks hS () (by exact Or.inr (⟨rfl, show ¬ (0 ≤ v.toInt ∧ v.toInt < (sf 2).toInt) from by have hk2 : x_1.toInt = (sf 2).toInt := congrArg Int32.toInt ex_1; omega⟩)) (hP.sub [0, 1] rfl) (hD.sub [0, 1] (by decide) rfl) dX8_isWalkerThere_15 rfl
set_option maxHeartbeats 4000000 in
set_option maxRecDepth 100000 in
theorem f_X8_kind (l : Launch) (D : va_G) (cI cB cQ : ClassId) (sz : Nat) (h : Nat) (sl : Nat) (zs : Nat) (ln : Nat) (ir : Nat) (tk : Nat) (tb : Nat) (tr : Nat) (fz : Nat) (na : Int32) (su : Int32) (le : Int32) (fu : Int32) (ap : Int32) (pp : Int32) (tc : Int32) (nm : Int32) (v : Int32) (sf : Nat → Int32) (v0 : Int) (hsi : SI sf v0) : mi l yX8_kind wsX8_kind ({ frames := 2, cells := 0, slots := 0, locals := 46 }) D cI cB cQ [.ref h, .int v] sz [(h, .inr (7, [.ref sl, .int na, .ref zs, .ref ln, .ref ir, .ref tk, .int su, .int le, .ref tb, .int fu, .int ap, .int pp, .ref tr, .int tc, .ref fz, .int nm])), (sl, .inl (cI, 1653, .inl sf))] (fun (r : Int32) (_u : Unit) => (((0 ≤ v.toInt ∧ v.toInt < (sf 2).toInt) ∧ r.toInt = (sf (20 + v.toNatClampNeg)).toInt) ∨ (¬ (0 ≤ v.toInt ∧ v.toInt < (sf 2).toInt) ∧ r.toInt = (-1000001)))) (fun _ => [(h, .inr (7, [.ref sl, .int na, .ref zs, .ref ln, .ref ir, .ref tk, .int su, .int le, .ref tb, .int fu, .int ap, .int pp, .ref tr, .int tc, .ref fz, .int nm])), (sl, .inl (cI, 1653, .inl sf))]) 0 0 := by
  refine wm_i (cc := cX8_kind) (maxL := 2) (ret := (some .int)) (by decide) rfl (Nat.le_of_ble_eq_true rfl) ?_
  intro p e s m below meth c A ls hx hb hr hml hown hts hlocks hin hP hK hD hN hA hl hS
  have hown : s.vm.findClass RX8 = some m.cls := hown
  have hl : lv_has ls 2 [(0, .ref h), (1, .int v)] := hl
  change W p l e ({ frames := 2, cells := 0, slots := 0, locals := 46 }) s m ([.ref h, .int v] : List Value).toArray below meth c s.heap [] 0 0 (MQ below (va_Qi (fun (r : Int32) (_u : Unit) => (((0 ≤ v.toInt ∧ v.toInt < (sf 2).toInt) ∧ r.toInt = (sf (20 + v.toNatClampNeg)).toInt) ∨ (¬ (0 ≤ v.toInt ∧ v.toInt < (sf 2).toInt) ∧ r.toInt = (-1000001)))) (fun u t => wb D A ((fun _ => [(h, .inr (7, [.ref sl, .int na, .ref zs, .ref ln, .ref ir, .ref tk, .int su, .int le, .ref tb, .int fu, .int ap, .int pp, .ref tr, .int tc, .ref fz, .int nm])), (sl, .inl (cI, 1653, .inl sf))]) u) t) A) ([.ref h, .int v] : List Value).toArray s 0 0 A) (F0 m 0 ls [])
  refine lv_aload_n hx hb dX8_kind_0 rfl (lv_at hl 0 rfl) ?_
  refine lv_iload_n hx hb dX8_kind_1 rfl (lv_at hl 1 rfl) ?_
  have k_1 := (f_X8_isWalkerThere l D cI cB cQ s.heap.size h sl zs ln ir tk tb tr fz na su le fu ap pp tc nm v sf v0 hsi)
  refine wc_i (WC := [(h, .inr (7, [.ref sl, .int na, .ref zs, .ref ln, .ref ir, .ref tk, .int su, .int le, .ref tb, .int fu, .int ap, .int pp, .ref tr, .int tc, .ref fz, .int nm])), (sl, .inl (cI, 1653, .inl sf))]) (WR := []) (va_runV (As := [.int v]) (rest := []) ⟨hx, hb, hml, hown, hts⟩ k_1 (cwV 1 hts gX8_kind_X8_isWalkerThere rfl rfl rfl (by decide +kernel) ⟨Nat.le_of_ble_eq_true rfl, Nat.le_of_ble_eq_true rfl⟩) (wp_V hP hK hD hN [0, 1] (by decide) rfl (ci := 7) rfl rfl) rfl rfl hl.1 rfl (lv_room (Nat.le_of_ble_eq_true rfl)) dX8_kind_2 ⟨Nat.le_of_ble_eq_true rfl, Nat.le_of_ble_eq_true rfl⟩) hP hD hS hA [0, 1] [] rfl rfl (by decide) (by decide) (fun r_1 u_1 H locs hw_1 hP hD hS => ?_)
  clear k_1
  have hP : va_P D kl [(h, .inr (7, [.ref sl, .int na, .ref zs, .ref ln, .ref ir, .ref tk, .int su, .int le, .ref tb, .int fu, .int ap, .int pp, .ref tr, .int tc, .ref fz, .int nm])), (sl, .inl (cI, 1653, .inl sf))] H := hP
  have hD : va_D A [(h, .inr (7, [.ref sl, .int na, .ref zs, .ref ln, .ref ir, .ref tk, .int su, .int le, .ref tb, .int fu, .int ap, .int pp, .ref tr, .int tc, .ref fz, .int nm])), (sl, .inl (cI, 1653, .inl sf))] := hD
  have c1_0 := hw_1
  rcases c1_0 with ⟨e_1, f_1⟩ | ⟨e_1, f_1⟩
  · subst e_1
    have f_1 : 0 ≤ v.toInt ∧ v.toInt ≤ 2 ∧ v.toInt < (sf 2).toInt := f_1
    refine lv_if_eq (tgt := 20) hx hb dX8_kind_5 (by decide) (fun c9 => absurd c9 (by decide)) (fun _ => ?_)
    refine lv_aload_n hx hb dX8_kind_8 rfl (lv_at hl 0 rfl) ?_
    refine va_get (D := D) (ci := 7) (v := .ref sl) (C := RX8) (T := TX8) (N := 16) hx hb hts (fun _ h => List.mem_cons_of_mem _ (List.mem_append_right _ h)) hown hK hP 0 rfl rfl 0 (by decide) (hts (.fieldLink RX8 7 "WinterWalkModel" "slot" "[I") (List.mem_of_getElem? (i := 1) rfl)) (fun _ h9 => h9) rfl dX8_kind_9 ?_
    refine lv_bipush (v := 20) hx hb dX8_kind_12 (by decide) ?_
    refine lv_iload_n hx hb dX8_kind_14 rfl (lv_at hl 1 rfl) ?_
    refine lv_iadd hx hb dX8_kind_15 ?_
    refine lv_topi (fun x_2 ex_2 => ?_)
    have e_2 : x_2.toInt = 20 + v.toInt := by rw [ex_2]; exact zi_add (by decide) (rfl) (by omega) (by omega)
    clear ex_2
    refine va_iald hx hb hK hP 1 0 rfl rfl (zi_in (by omega) (by omega)) dX8_kind_16 ?_
    refine lv_topi (fun x_3 ex_3 => ?_)
    refine lv_goto (tgt := 22) hx hb dX8_kind_17 (by decide) ?_
    exact wr_i (v := x_3) hx hb hr hlocks hS () (by exact show ((0 ≤ v.toInt ∧ v.toInt < (sf 2).toInt) ∧ x_3.toInt = (sf (20 + v.toNatClampNeg)).toInt) ∨ (¬ (0 ≤ v.toInt ∧ v.toInt < (sf 2).toInt) ∧ x_3.toInt = (-1000001)) from Or.inl ⟨by omega, by rw [ex_3]; exact congrArg (fun q => (sf q).toInt) (by have h9 := zi_cn (x := x_2) (by omega); have h8 := zi_cn (x := v) (by omega); omega)⟩) (hP.sub [0, 1] rfl) (hD.sub [0, 1] (by decide) rfl) dX8_kind_22
  · subst e_1
    have f_1 : ¬ (0 ≤ v.toInt ∧ v.toInt < (sf 2).toInt) := f_1
    refine lv_if_eq (tgt := 20) hx hb dX8_kind_5 (by decide) (fun _ => ?_) (fun c9 => absurd (by decide) c9)
    refine lv_ldc (v := (-1000001)) hx hb hown (hts (.constant RX8 48 (-1000001)) (List.mem_of_getElem? (i := 2) rfl)) dX8_kind_20 ?_
    exact wr_i (v := (-1000001)) hx hb hr hlocks hS () (by exact show ((0 ≤ v.toInt ∧ v.toInt < (sf 2).toInt) ∧ (-1000001) = (sf (20 + v.toNatClampNeg)).toInt) ∨ (¬ (0 ≤ v.toInt ∧ v.toInt < (sf 2).toInt) ∧ (-1000001) = (-1000001)) from Or.inr ⟨by omega, by decide⟩) (hP.sub [0, 1] rfl) (hD.sub [0, 1] (by decide) rfl) dX8_kind_22
