set_option maxHeartbeats 4000000 in
set_option maxRecDepth 100000 in
theorem f_X8_copies (l : Launch) (D : va_G) (cI cB cQ : ClassId) (sz : Nat) (h : Nat) (sl : Nat) (zs : Nat) (ln : Nat) (ir : Nat) (tk : Nat) (tb : Nat) (tr : Nat) (fz : Nat) (na : Int32) (su : Int32) (le : Int32) (fu : Int32) (ap : Int32) (pp : Int32) (tc : Int32) (nm : Int32) (a : Int32) (b : Int32) (sf : Nat → Int32) (v0 : Int) (hsi : SI sf v0) (h_a : 0 ≤ a.toInt ∧ a.toInt ≤ 28) (h_b : 1 ≤ b.toInt ∧ b.toInt ≤ 28) (h_n : ¬ a.toInt = b.toInt) : mv l yX8_copies wsX8_copies ({ frames := 0, cells := 0, slots := 0, locals := 0 }) D cI cB cQ [.ref h, .int a, .int b] sz [(h, .inr (7, [.ref sl, .int na, .ref zs, .ref ln, .ref ir, .ref tk, .int su, .int le, .ref tb, .int fu, .int ap, .int pp, .ref tr, .int tc, .ref fz, .int nm])), (sl, .inl (cI, 1653, .inl sf))] (fun (u : (Nat → Int32)) => (∀ q : Nat, q < 57 → u (57 * b.toInt.toNat + q) = sf (57 * a.toInt.toNat + q)) ∧ (FRM ((57 * b.toInt)) ((57 * b.toInt + 57)) sf u) ∧ (SI u v0)) (fun u => [(h, .inr (7, [.ref sl, .int na, .ref zs, .ref ln, .ref ir, .ref tk, .int su, .int le, .ref tb, .int fu, .int ap, .int pp, .ref tr, .int tc, .ref fz, .int nm])), (sl, .inl (cI, 1653, .inl u))]) 0 0 := by
  refine wm_v (cc := cX8_copies) (maxL := 4) (ret := none) (by decide) rfl (Nat.le_of_ble_eq_true rfl) ?_
  intro p e s m below meth c A ls hx hb hr hml hown hts hlocks hin hP hK hD hN hA hl hS
  have hown : s.vm.findClass RX8 = some m.cls := hown
  have hl : lv_has ls 4 [(0, .ref h), (1, .int a), (2, .int b)] := hl
  change W p l e ({ frames := 0, cells := 0, slots := 0, locals := 0 }) s m ([.ref h, .int a, .int b] : List Value).toArray below meth c s.heap [] 0 0 (MQ below (va_Qv (fun (u : (Nat → Int32)) => (∀ q : Nat, q < 57 → u (57 * b.toInt.toNat + q) = sf (57 * a.toInt.toNat + q)) ∧ (FRM ((57 * b.toInt)) ((57 * b.toInt + 57)) sf u) ∧ (SI u v0)) (fun u t => wb D A ((fun u => [(h, .inr (7, [.ref sl, .int na, .ref zs, .ref ln, .ref ir, .ref tk, .int su, .int le, .ref tb, .int fu, .int ap, .int pp, .ref tr, .int tc, .ref fz, .int nm])), (sl, .inl (cI, 1653, .inl u))]) u) t) A) ([.ref h, .int a, .int b] : List Value).toArray s 0 0 A) (F0 m 0 ls [])
  refine lv_iconst (v := 0) hx hb dX8_copies_0 (by decide) ?_
  refine lv_istore_n (lv' := [(3, .int 0), (0, .ref h), (1, .int a), (2, .int b)]) hx hb dX8_copies_1 rfl hl (by decide) rfl (fun ls hl => ?_)
  have hL2 : ∀ (nf : Nat) (t3_c2 : Int32) (g0_c2 : Nat → Int32) (H : Heap) (locs : List Loc) (ls : Array Slot), (0 ≤ t3_c2.toInt ∧ t3_c2.toInt ≤ 57) → (SI g0_c2 v0) → (∀ q : Nat, (q : Int) < t3_c2.toInt → g0_c2 (57 * b.toInt.toNat + q) = sf (57 * a.toInt.toNat + q)) → (FRM ((57 * b.toInt)) ((57 * b.toInt + 57)) sf g0_c2) → (57 - t3_c2.toInt).toNat < nf → va_P D kl [(h, .inr (7, [.ref sl, .int na, .ref zs, .ref ln, .ref ir, .ref tk, .int su, .int le, .ref tb, .int fu, .int ap, .int pp, .ref tr, .int tc, .ref fz, .int nm])), (sl, .inl (cI, 1653, .inl g0_c2))] H → va_D A [(h, .inr (7, [.ref sl, .int na, .ref zs, .ref ln, .ref ir, .ref tk, .int su, .int le, .ref tb, .int fu, .int ap, .int pp, .ref tr, .int tc, .ref fz, .int nm])), (sl, .inl (cI, 1653, .inl g0_c2))] → va_S A s.heap H locs → lv_has ls 4 [(3, .int t3_c2), (0, .ref h), (1, .int a), (2, .int b)] → W p l e ({ frames := 0, cells := 0, slots := 0, locals := 0 }) s m ([.ref h, .int a, .int b] : List Value).toArray below meth c H locs 0 0 (MQ below (va_Qv (fun (u : (Nat → Int32)) => (∀ q : Nat, q < 57 → u (57 * b.toInt.toNat + q) = sf (57 * a.toInt.toNat + q)) ∧ (FRM ((57 * b.toInt)) ((57 * b.toInt + 57)) sf u) ∧ (SI u v0)) (fun u t => wb D A ((fun u => [(h, .inr (7, [.ref sl, .int na, .ref zs, .ref ln, .ref ir, .ref tk, .int su, .int le, .ref tb, .int fu, .int ap, .int pp, .ref tr, .int tc, .ref fz, .int nm])), (sl, .inl (cI, 1653, .inl u))]) u) t) A) ([.ref h, .int a, .int b] : List Value).toArray s 0 0 A) (F0 m 2 ls []) := by
    intro nf
    induction nf with
    | zero =>
      intro t3_c2 g0_c2 H locs ls i_t3_c2 ha_g0_c2 q0_c2 hf_c2 hm
      exact absurd hm (Nat.not_lt_zero _)
    | succ nf ih2 =>
      intro t3_c2 g0_c2 H locs ls i_t3_c2 ha_g0_c2 q0_c2 hf_c2 hm2 hP hD hS hl
      refine lv_iload_n hx hb dX8_copies_2 rfl (lv_at hl 0 rfl) ?_
      refine lv_bipush (v := 57) hx hb dX8_copies_3 (by decide) ?_
      refine lv_icmp_ge (tgt := 36) hx hb dX8_copies_5 (by decide) (fun c_1 => ?_) (fun c_1 => ?_)
      · have f_1 : 57 ≤ t3_c2.toInt := zi_le c_1
        exact wr_v hx hb hr hlocks hS g0_c2 (by exact ⟨show ∀ q : Nat, q < 57 → g0_c2 (57 * b.toInt.toNat + q) = sf (57 * a.toInt.toNat + q) from fun q hq => q0_c2 q (by omega), show FRM ((57 * b.toInt)) ((57 * b.toInt + 57)) sf g0_c2 from hf_c2, ha_g0_c2⟩) (hP.sub [0, 1] rfl) (hD.sub [0, 1] (by decide) rfl) dX8_copies_36
      · have f_1 : ¬ 57 ≤ t3_c2.toInt := zi_nle c_1
        refine lv_aload_n hx hb dX8_copies_8 rfl (lv_at hl 1 rfl) ?_
        refine va_get (D := D) (ci := 7) (v := .ref sl) (C := RX8) (T := TX8) (N := 16) hx hb hts (fun _ h => List.mem_cons_of_mem _ (List.mem_append_right _ h)) hown hK hP 0 rfl rfl 0 (by decide) (hts (.fieldLink RX8 7 "WinterWalkModel" "slot" "[I") (List.mem_of_getElem? (i := 1) rfl)) (fun _ h9 => h9) rfl dX8_copies_9 ?_
        refine lv_iload_n hx hb dX8_copies_12 rfl (lv_at hl 3 rfl) ?_
        refine lv_bipush (v := 57) hx hb dX8_copies_13 (by decide) ?_
        refine lv_imul hx hb dX8_copies_15 ?_
        refine lv_topi (fun x_2 ex_2 => ?_)
        have e_2 : x_2.toInt = b.toInt * 57 := by rw [ex_2]; exact zi_mul (rfl) (by decide) (by omega) (by omega)
        clear ex_2
        refine lv_iload_n hx hb dX8_copies_16 rfl (lv_at hl 0 rfl) ?_
        refine lv_iadd hx hb dX8_copies_17 ?_
        refine lv_topi (fun x_3 ex_3 => ?_)
        have e_3 : x_3.toInt = x_2.toInt + t3_c2.toInt := by rw [ex_3]; exact zi_add (rfl) (rfl) (by omega) (by omega)
        clear ex_3
        refine lv_aload_n hx hb dX8_copies_18 rfl (lv_at hl 1 rfl) ?_
        refine va_get (D := D) (ci := 7) (v := .ref sl) (C := RX8) (T := TX8) (N := 16) hx hb hts (fun _ h => List.mem_cons_of_mem _ (List.mem_append_right _ h)) hown hK hP 0 rfl rfl 0 (by decide) (hts (.fieldLink RX8 7 "WinterWalkModel" "slot" "[I") (List.mem_of_getElem? (i := 1) rfl)) (fun _ h9 => h9) rfl dX8_copies_19 ?_
        refine lv_iload_n hx hb dX8_copies_22 rfl (lv_at hl 2 rfl) ?_
        refine lv_bipush (v := 57) hx hb dX8_copies_23 (by decide) ?_
        refine lv_imul hx hb dX8_copies_25 ?_
        refine lv_topi (fun x_4 ex_4 => ?_)
        have e_4 : x_4.toInt = a.toInt * 57 := by rw [ex_4]; exact zi_mul (rfl) (by decide) (by omega) (by omega)
        clear ex_4
        refine lv_iload_n hx hb dX8_copies_26 rfl (lv_at hl 0 rfl) ?_
        refine lv_iadd hx hb dX8_copies_27 ?_
        refine lv_topi (fun x_5 ex_5 => ?_)
        have e_5 : x_5.toInt = x_4.toInt + t3_c2.toInt := by rw [ex_5]; exact zi_add (rfl) (rfl) (by omega) (by omega)
        clear ex_5
        refine va_iald hx hb hK hP 1 0 rfl rfl (zi_in (by omega) (by omega)) dX8_copies_28 ?_
        refine lv_topi (fun x_6 ex_6 => ?_)
        have f_6 := si_g ha_g0_c2 (i := x_5) (s := a.toInt) (k := t3_c2.toInt) (by omega) (by omega) (by omega)
        rw [← ex_6] at f_6
        refine va_iast hx hb hK hP hD hS 1 0 rfl rfl (zi_in (by omega) (by omega)) dX8_copies_29 (fun H locs hP hD hS => ?_)
        have hP : va_P D kl [(h, .inr (7, [.ref sl, .int na, .ref zs, .ref ln, .ref ir, .ref tk, .int su, .int le, .ref tb, .int fu, .int ap, .int pp, .ref tr, .int tc, .ref fz, .int nm])), (sl, .inl (cI, 1653, .inl (upd g0_c2 (x_3 : Int32).toNatClampNeg x_6)))] H := hP
        have hD : va_D A [(h, .inr (7, [.ref sl, .int na, .ref zs, .ref ln, .ref ir, .ref tk, .int su, .int le, .ref tb, .int fu, .int ap, .int pp, .ref tr, .int tc, .ref fz, .int nm])), (sl, .inl (cI, 1653, .inl (upd g0_c2 (x_3 : Int32).toNatClampNeg x_6)))] := hD
        have ha_7 : SI (upd g0_c2 (x_3 : Int32).toNatClampNeg x_6) v0 := si_up ha_g0_c2 (by omega) (fun s0 a0 b0 e0 => by omega) (fun s0 a0 b0 e0 => by omega) (fun s0 k0 a0 b0 c0 d0 e0 => by omega) (by omega)
        have hf_8 : FRM ((57 * b.toInt)) ((57 * b.toInt + 57)) sf (upd g0_c2 (x_3 : Int32).toNatClampNeg x_6) := FRM.up hf_c2 (by omega)
        obtain ⟨x_9, ex_9⟩ : ∃ y : Int32, y = t3_c2 + Int32.ofInt 1 := ⟨_, rfl⟩
        refine lv_iinc (v := x_9) (lv' := [(3, .int x_9), (0, .ref h), (1, .int a), (2, .int b)]) hx hb dX8_copies_30 hl (k := 0) rfl ex_9.symm (by decide) rfl (fun ls hl => ?_)
        have ex_9 : x_9 = t3_c2 + 1 := ex_9
        have e_9 : x_9.toInt = t3_c2.toInt + 1 := by rw [ex_9]; exact zi_add (rfl) (by decide) (by omega) (by omega)
        clear ex_9
        refine lv_goto (tgt := 2) hx hb dX8_copies_33 (by decide) ?_
        exact ih2 x_9 (upd g0_c2 (x_3 : Int32).toNatClampNeg x_6) _ _ _ (show 0 ≤ x_9.toInt ∧ x_9.toInt ≤ 57 from by omega) ha_7 (fun q hq => kfm q0_c2 (by omega) (by omega) (by rw [ex_6]; exact kfm2 hf_c2 (by omega) (by omega) (by omega)) hq (by omega)) hf_8 (by omega) (hP.sub [0, 1] rfl) (hD.sub [0, 1] (by decide) rfl) hS (lv_sub hl [0, 1, 2, 3] rfl)
  exact hL2 (((57 - (0 : Int32).toInt).toNat) + 1) 0 sf _ _ _ (show 0 ≤ 0 ∧ 0 ≤ 57 from by omega) hsi (fun q hq => absurd hq (by have h7 : (0 : Int32).toInt = 0 := (by decide); omega)) FRM.refl (Nat.lt_succ_self _) (hP.sub [0, 1] rfl) (hD.sub [0, 1] (by decide) rfl) hS (lv_sub hl [0, 1, 2, 3] rfl)
set_option maxHeartbeats 4000000 in
set_option maxRecDepth 100000 in
theorem f_X8_walks (l : Launch) (D : va_G) (cI cB cQ : ClassId) (sz : Nat) (h : Nat) (sl : Nat) (zs : Nat) (ln : Nat) (ir : Nat) (tk : Nat) (tb : Nat) (tr : Nat) (fz : Nat) (na : Int32) (su : Int32) (le : Int32) (fu : Int32) (ap : Int32) (pp : Int32) (tc : Int32) (nm : Int32) (k : Int32) (v : Int32) (sf : Nat → Int32) (v0 : Int) (hsi : SI sf v0) (h_k : 0 ≤ k.toInt ∧ k.toInt ≤ 28) (h_v : 0 ≤ v.toInt ∧ v.toInt ≤ 2) : mv l yX8_walks wsX8_walks ({ frames := 3, cells := 0, slots := 0, locals := 73 }) D cI cB cQ [.ref h, .int k, .int v] sz [(h, .inr (7, [.ref sl, .int na, .ref zs, .ref ln, .ref ir, .ref tk, .int su, .int le, .ref tb, .int fu, .int ap, .int pp, .ref tr, .int tc, .ref fz, .int nm])), (sl, .inl (cI, 1653, .inl sf))] (fun (u : (Nat → Int32)) => (FRM (57 * k.toInt + 31) (57 * k.toInt + 57) sf u) ∧ (SI u v0)) (fun u => [(h, .inr (7, [.ref sl, .int na, .ref zs, .ref ln, .ref ir, .ref tk, .int su, .int le, .ref tb, .int fu, .int ap, .int pp, .ref tr, .int tc, .ref fz, .int nm])), (sl, .inl (cI, 1653, .inl u))]) 0 0 := by
  refine wm_v (cc := cX8_walks) (maxL := 7) (ret := none) (by decide) rfl (Nat.le_of_ble_eq_true rfl) ?_
  intro p e s m below meth c A ls hx hb hr hml hown hts hlocks hin hP hK hD hN hA hl hS
  have hown : s.vm.findClass RX8 = some m.cls := hown
  have hl : lv_has ls 7 [(0, .ref h), (1, .int k), (2, .int v)] := hl
  change W p l e ({ frames := 3, cells := 0, slots := 0, locals := 73 }) s m ([.ref h, .int k, .int v] : List Value).toArray below meth c s.heap [] 0 0 (MQ below (va_Qv (fun (u : (Nat → Int32)) => (FRM (57 * k.toInt + 31) (57 * k.toInt + 57) sf u) ∧ (SI u v0)) (fun u t => wb D A ((fun u => [(h, .inr (7, [.ref sl, .int na, .ref zs, .ref ln, .ref ir, .ref tk, .int su, .int le, .ref tb, .int fu, .int ap, .int pp, .ref tr, .int tc, .ref fz, .int nm])), (sl, .inl (cI, 1653, .inl u))]) u) t) A) ([.ref h, .int k, .int v] : List Value).toArray s 0 0 A) (F0 m 0 ls [])
  refine lv_aload_n hx hb dX8_walks_0 rfl (lv_at hl 0 rfl) ?_
  refine va_get (D := D) (ci := 7) (v := .ref sl) (C := RX8) (T := TX8) (N := 16) hx hb hts (fun _ h => List.mem_cons_of_mem _ (List.mem_append_right _ h)) hown hK hP 0 rfl rfl 0 (by decide) (hts (.fieldLink RX8 7 "WinterWalkModel" "slot" "[I") (List.mem_of_getElem? (i := 1) rfl)) (fun _ h9 => h9) rfl dX8_walks_1 ?_
  refine lv_iload_n hx hb dX8_walks_4 rfl (lv_at hl 1 rfl) ?_
  refine lv_bipush (v := 57) hx hb dX8_walks_5 (by decide) ?_
  refine lv_imul hx hb dX8_walks_7 ?_
  refine lv_topi (fun x_1 ex_1 => ?_)
  have e_1 : x_1.toInt = k.toInt * 57 := by rw [ex_1]; exact zi_mul (rfl) (by decide) (by omega) (by omega)
  clear ex_1
  refine lv_bipush (v := 48) hx hb dX8_walks_8 (by decide) ?_
  refine lv_iadd hx hb dX8_walks_10 ?_
  refine lv_topi (fun x_2 ex_2 => ?_)
  have e_2 : x_2.toInt = x_1.toInt + 48 := by rw [ex_2]; exact zi_add (rfl) (by decide) (by omega) (by omega)
  clear ex_2
  refine lv_iload_n hx hb dX8_walks_11 rfl (lv_at hl 2 rfl) ?_
  refine lv_iadd hx hb dX8_walks_12 ?_
  refine lv_topi (fun x_3 ex_3 => ?_)
  have e_3 : x_3.toInt = x_2.toInt + v.toInt := by rw [ex_3]; exact zi_add (rfl) (rfl) (by omega) (by omega)
  clear ex_3
  refine va_iald hx hb hK hP 1 0 rfl rfl (zi_in (by omega) (by omega)) dX8_walks_13 ?_
  refine lv_topi (fun x_4 ex_4 => ?_)
  have f_4 : 0 ≤ x_4.toInt ∧ x_4.toInt ≤ 7 := by rw [ex_4]; exact si_a hsi (s := k.toInt) (k := v.toInt) (by omega) (by omega) (by omega)
  clear ex_4
  refine lv_istore_n (lv' := [(3, .int x_4), (0, .ref h), (1, .int k), (2, .int v)]) hx hb dX8_walks_14 rfl hl (by decide) rfl (fun ls hl => ?_)
  refine lv_aload_n hx hb dX8_walks_15 rfl (lv_at hl 1 rfl) ?_
  refine lv_iload_n hx hb dX8_walks_16 rfl (lv_at hl 2 rfl) ?_
  refine lv_iload_n hx hb dX8_walks_17 rfl (lv_at hl 3 rfl) ?_
  have k_5 := (g_X8_goesTo l D cI cB cQ s.heap.size h sl zs ln ir tk tb tr fz na su le fu ap pp tc nm k v sf v0 hsi (by omega) (by omega))
  refine wc_i (WC := [(h, .inr (7, [.ref sl, .int na, .ref zs, .ref ln, .ref ir, .ref tk, .int su, .int le, .ref tb, .int fu, .int ap, .int pp, .ref tr, .int tc, .ref fz, .int nm])), (sl, .inl (cI, 1653, .inl sf))]) (WR := []) (va_runV (As := [.int k, .int v]) (rest := []) ⟨hx, hb, hml, hown, hts⟩ k_5 (cwV 2 hts gX8_walks_X8_goesTo rfl rfl rfl (by decide +kernel) ⟨Nat.le_of_ble_eq_true rfl, Nat.le_of_ble_eq_true rfl⟩) (wp_V hP hK hD hN [0, 1] (by decide) rfl (ci := 7) rfl rfl) rfl rfl hl.1 rfl (lv_room (Nat.le_of_ble_eq_true rfl)) dX8_walks_18 ⟨Nat.le_of_ble_eq_true rfl, Nat.le_of_ble_eq_true rfl⟩) hP hD hS hA [0, 1] [] rfl rfl (by decide) (by decide) (fun r_5 u_5 H locs hw_5 hP hD hS => ?_)
  clear k_5
  have hP : va_P D kl [(h, .inr (7, [.ref sl, .int na, .ref zs, .ref ln, .ref ir, .ref tk, .int su, .int le, .ref tb, .int fu, .int ap, .int pp, .ref tr, .int tc, .ref fz, .int nm])), (sl, .inl (cI, 1653, .inl sf))] H := hP
  have hD : va_D A [(h, .inr (7, [.ref sl, .int na, .ref zs, .ref ln, .ref ir, .ref tk, .int su, .int le, .ref tb, .int fu, .int ap, .int pp, .ref tr, .int tc, .ref fz, .int nm])), (sl, .inl (cI, 1653, .inl sf))] := hD
  have c5_0 := hw_5
  have c5_0 : 0 ≤ r_5.toInt ∧ r_5.toInt ≤ 7 := c5_0
  refine lv_istore (lv' := [(4, .int r_5), (3, .int x_4), (0, .ref h), (1, .int k), (2, .int v)]) hx hb dX8_walks_21 hl (by decide) rfl (fun ls hl => ?_)
  refine lv_aload_n hx hb dX8_walks_23 rfl (lv_at hl 2 rfl) ?_
  refine va_get (D := D) (ci := 7) (v := .ref sl) (C := RX8) (T := TX8) (N := 16) hx hb hts (fun _ h => List.mem_cons_of_mem _ (List.mem_append_right _ h)) hown hK hP 0 rfl rfl 0 (by decide) (hts (.fieldLink RX8 7 "WinterWalkModel" "slot" "[I") (List.mem_of_getElem? (i := 1) rfl)) (fun _ h9 => h9) rfl dX8_walks_24 ?_
  refine lv_iload_n hx hb dX8_walks_27 rfl (lv_at hl 3 rfl) ?_
  refine lv_bipush (v := 57) hx hb dX8_walks_28 (by decide) ?_
  refine lv_imul hx hb dX8_walks_30 ?_
  refine lv_topi (fun x_6 ex_6 => ?_)
  have e_6 : x_6.toInt = k.toInt * 57 := by rw [ex_6]; exact zi_mul (rfl) (by decide) (by omega) (by omega)
  clear ex_6
  refine lv_bipush (v := 51) hx hb dX8_walks_31 (by decide) ?_
  refine lv_iadd hx hb dX8_walks_33 ?_
  refine lv_topi (fun x_7 ex_7 => ?_)
  have e_7 : x_7.toInt = x_6.toInt + 51 := by rw [ex_7]; exact zi_add (rfl) (by decide) (by omega) (by omega)
  clear ex_7
  refine lv_iload_n hx hb dX8_walks_34 rfl (lv_at hl 4 rfl) ?_
  refine lv_iadd hx hb dX8_walks_35 ?_
  refine lv_topi (fun x_8 ex_8 => ?_)
  have e_8 : x_8.toInt = x_7.toInt + v.toInt := by rw [ex_8]; exact zi_add (rfl) (rfl) (by omega) (by omega)
  clear ex_8
  refine lv_iload_n hx hb dX8_walks_36 rfl (lv_at hl 1 rfl) ?_
  refine va_iast hx hb hK hP hD hS 1 0 rfl rfl (zi_in (by omega) (by omega)) dX8_walks_37 (fun H locs hP hD hS => ?_)
  have hP : va_P D kl [(h, .inr (7, [.ref sl, .int na, .ref zs, .ref ln, .ref ir, .ref tk, .int su, .int le, .ref tb, .int fu, .int ap, .int pp, .ref tr, .int tc, .ref fz, .int nm])), (sl, .inl (cI, 1653, .inl (upd sf (x_8 : Int32).toNatClampNeg x_4)))] H := hP
  have hD : va_D A [(h, .inr (7, [.ref sl, .int na, .ref zs, .ref ln, .ref ir, .ref tk, .int su, .int le, .ref tb, .int fu, .int ap, .int pp, .ref tr, .int tc, .ref fz, .int nm])), (sl, .inl (cI, 1653, .inl (upd sf (x_8 : Int32).toNatClampNeg x_4)))] := hD
  have ha_9 : SI (upd sf (x_8 : Int32).toNatClampNeg x_4) v0 := si_up hsi (by omega) (fun s0 a0 b0 e0 => by omega) (fun s0 a0 b0 e0 => by omega) (fun s0 k0 a0 b0 c0 d0 e0 => by omega) (by omega)
  have hf_10 : FRM (57 * k.toInt + 31) (57 * k.toInt + 57) sf (upd sf (x_8 : Int32).toNatClampNeg x_4) := FRM.up FRM.refl (by omega)
  refine lv_aload_n hx hb dX8_walks_38 rfl (lv_at hl 2 rfl) ?_
  refine va_get (D := D) (ci := 7) (v := .ref sl) (C := RX8) (T := TX8) (N := 16) hx hb hts (fun _ h => List.mem_cons_of_mem _ (List.mem_append_right _ h)) hown hK hP 0 rfl rfl 0 (by decide) (hts (.fieldLink RX8 7 "WinterWalkModel" "slot" "[I") (List.mem_of_getElem? (i := 1) rfl)) (fun _ h9 => h9) rfl dX8_walks_39 ?_
  refine lv_iload_n hx hb dX8_walks_42 rfl (lv_at hl 3 rfl) ?_
  refine lv_bipush (v := 57) hx hb dX8_walks_43 (by decide) ?_
  refine lv_imul hx hb dX8_walks_45 ?_
  refine lv_topi (fun x_11 ex_11 => ?_)
  have e_11 : x_11.toInt = k.toInt * 57 := by rw [ex_11]; exact zi_mul (rfl) (by decide) (by omega) (by omega)
  clear ex_11
  refine lv_bipush (v := 48) hx hb dX8_walks_46 (by decide) ?_
  refine lv_iadd hx hb dX8_walks_48 ?_
  refine lv_topi (fun x_12 ex_12 => ?_)
  have e_12 : x_12.toInt = x_11.toInt + 48 := by rw [ex_12]; exact zi_add (rfl) (by decide) (by omega) (by omega)
  clear ex_12
  refine lv_iload_n hx hb dX8_walks_49 rfl (lv_at hl 4 rfl) ?_
  refine lv_iadd hx hb dX8_walks_50 ?_
  refine lv_topi (fun x_13 ex_13 => ?_)
  have e_13 : x_13.toInt = x_12.toInt + v.toInt := by rw [ex_13]; exact zi_add (rfl) (rfl) (by omega) (by omega)
  clear ex_13
  refine lv_iload hx hb dX8_walks_51 (lv_at hl 0 rfl) ?_
  refine va_iast hx hb hK hP hD hS 1 0 rfl rfl (zi_in (by omega) (by omega)) dX8_walks_53 (fun H locs hP hD hS => ?_)
  have hP : va_P D kl [(h, .inr (7, [.ref sl, .int na, .ref zs, .ref ln, .ref ir, .ref tk, .int su, .int le, .ref tb, .int fu, .int ap, .int pp, .ref tr, .int tc, .ref fz, .int nm])), (sl, .inl (cI, 1653, .inl (upd (upd sf (x_8 : Int32).toNatClampNeg x_4) (x_13 : Int32).toNatClampNeg r_5)))] H := hP
  have hD : va_D A [(h, .inr (7, [.ref sl, .int na, .ref zs, .ref ln, .ref ir, .ref tk, .int su, .int le, .ref tb, .int fu, .int ap, .int pp, .ref tr, .int tc, .ref fz, .int nm])), (sl, .inl (cI, 1653, .inl (upd (upd sf (x_8 : Int32).toNatClampNeg x_4) (x_13 : Int32).toNatClampNeg r_5)))] := hD
  have ha_14 : SI (upd (upd sf (x_8 : Int32).toNatClampNeg x_4) (x_13 : Int32).toNatClampNeg r_5) v0 := si_up ha_9 (by omega) (fun s0 a0 b0 e0 => by omega) (fun s0 a0 b0 e0 => by omega) (fun s0 k0 a0 b0 c0 d0 e0 => by omega) (by omega)
  have hf_15 : FRM (57 * k.toInt + 31) (57 * k.toInt + 57) sf (upd (upd sf (x_8 : Int32).toNatClampNeg x_4) (x_13 : Int32).toNatClampNeg r_5) := FRM.up hf_10 (by omega)
  refine lv_aload_n hx hb dX8_walks_54 rfl (lv_at hl 2 rfl) ?_
  refine va_get (D := D) (ci := 7) (v := .ref sl) (C := RX8) (T := TX8) (N := 16) hx hb hts (fun _ h => List.mem_cons_of_mem _ (List.mem_append_right _ h)) hown hK hP 0 rfl rfl 0 (by decide) (hts (.fieldLink RX8 7 "WinterWalkModel" "slot" "[I") (List.mem_of_getElem? (i := 1) rfl)) (fun _ h9 => h9) rfl dX8_walks_55 ?_
  refine lv_iload_n hx hb dX8_walks_58 rfl (lv_at hl 3 rfl) ?_
  refine lv_bipush (v := 57) hx hb dX8_walks_59 (by decide) ?_
  refine lv_imul hx hb dX8_walks_61 ?_
  refine lv_topi (fun x_16 ex_16 => ?_)
  have e_16 : x_16.toInt = k.toInt * 57 := by rw [ex_16]; exact zi_mul (rfl) (by decide) (by omega) (by omega)
  clear ex_16
  refine lv_bipush (v := 40) hx hb dX8_walks_62 (by decide) ?_
  refine lv_iadd hx hb dX8_walks_64 ?_
  refine lv_topi (fun x_17 ex_17 => ?_)
  have e_17 : x_17.toInt = x_16.toInt + 40 := by rw [ex_17]; exact zi_add (rfl) (by decide) (by omega) (by omega)
  clear ex_17
  refine lv_iload hx hb dX8_walks_65 (lv_at hl 0 rfl) ?_
  refine lv_iadd hx hb dX8_walks_67 ?_
  refine lv_topi (fun x_18 ex_18 => ?_)
  have e_18 : x_18.toInt = x_17.toInt + r_5.toInt := by rw [ex_18]; exact zi_add (rfl) (rfl) (by omega) (by omega)
  clear ex_18
  refine lv_dup2_11 hx hb dX8_walks_68 rfl rfl ?_
  refine va_iald hx hb hK hP 1 0 rfl rfl (zi_in (by omega) (by omega)) dX8_walks_69 ?_
  refine lv_topi (fun x_19 ex_19 => ?_)
  clear ex_19
  refine lv_iconst (v := 1) hx hb dX8_walks_70 (by decide) ?_
  refine lv_iadd hx hb dX8_walks_71 ?_
  refine lv_topi (fun x_20 ex_20 => ?_)
  clear ex_20
  refine va_iast hx hb hK hP hD hS 1 0 rfl rfl (zi_in (by omega) (by omega)) dX8_walks_72 (fun H locs hP hD hS => ?_)
  have hP : va_P D kl [(h, .inr (7, [.ref sl, .int na, .ref zs, .ref ln, .ref ir, .ref tk, .int su, .int le, .ref tb, .int fu, .int ap, .int pp, .ref tr, .int tc, .ref fz, .int nm])), (sl, .inl (cI, 1653, .inl (upd (upd (upd sf (x_8 : Int32).toNatClampNeg x_4) (x_13 : Int32).toNatClampNeg r_5) (x_18 : Int32).toNatClampNeg x_20)))] H := hP
  have hD : va_D A [(h, .inr (7, [.ref sl, .int na, .ref zs, .ref ln, .ref ir, .ref tk, .int su, .int le, .ref tb, .int fu, .int ap, .int pp, .ref tr, .int tc, .ref fz, .int nm])), (sl, .inl (cI, 1653, .inl (upd (upd (upd sf (x_8 : Int32).toNatClampNeg x_4) (x_13 : Int32).toNatClampNeg r_5) (x_18 : Int32).toNatClampNeg x_20)))] := hD
  have ha_21 : SI (upd (upd (upd sf (x_8 : Int32).toNatClampNeg x_4) (x_13 : Int32).toNatClampNeg r_5) (x_18 : Int32).toNatClampNeg x_20) v0 := si_up ha_14 (by omega) (fun s0 a0 b0 e0 => by omega) (fun s0 a0 b0 e0 => by omega) (fun s0 k0 a0 b0 c0 d0 e0 => by omega) (by omega)
  have hf_22 : FRM (57 * k.toInt + 31) (57 * k.toInt + 57) sf (upd (upd (upd sf (x_8 : Int32).toNatClampNeg x_4) (x_13 : Int32).toNatClampNeg r_5) (x_18 : Int32).toNatClampNeg x_20) := FRM.up hf_15 (by omega)
  refine lv_aload_n hx hb dX8_walks_73 rfl (lv_at hl 2 rfl) ?_
  refine va_get (D := D) (ci := 7) (v := .ref sl) (C := RX8) (T := TX8) (N := 16) hx hb hts (fun _ h => List.mem_cons_of_mem _ (List.mem_append_right _ h)) hown hK hP 0 rfl rfl 0 (by decide) (hts (.fieldLink RX8 7 "WinterWalkModel" "slot" "[I") (List.mem_of_getElem? (i := 1) rfl)) (fun _ h9 => h9) rfl dX8_walks_74 ?_
  refine lv_iload_n hx hb dX8_walks_77 rfl (lv_at hl 3 rfl) ?_
  refine lv_bipush (v := 57) hx hb dX8_walks_78 (by decide) ?_
  refine lv_imul hx hb dX8_walks_80 ?_
  refine lv_topi (fun x_23 ex_23 => ?_)
  have e_23 : x_23.toInt = k.toInt * 57 := by rw [ex_23]; exact zi_mul (rfl) (by decide) (by omega) (by omega)
  clear ex_23
  refine lv_bipush (v := 32) hx hb dX8_walks_81 (by decide) ?_
  refine lv_iadd hx hb dX8_walks_83 ?_
  refine lv_topi (fun x_24 ex_24 => ?_)
  have e_24 : x_24.toInt = x_23.toInt + 32 := by rw [ex_24]; exact zi_add (rfl) (by decide) (by omega) (by omega)
  clear ex_24
  refine lv_iload hx hb dX8_walks_84 (lv_at hl 0 rfl) ?_
  refine lv_iadd hx hb dX8_walks_86 ?_
  refine lv_topi (fun x_25 ex_25 => ?_)
  have e_25 : x_25.toInt = x_24.toInt + r_5.toInt := by rw [ex_25]; exact zi_add (rfl) (rfl) (by omega) (by omega)
  clear ex_25
  refine lv_aload_n hx hb dX8_walks_87 rfl (lv_at hl 2 rfl) ?_
  refine va_get (D := D) (ci := 7) (v := .ref sl) (C := RX8) (T := TX8) (N := 16) hx hb hts (fun _ h => List.mem_cons_of_mem _ (List.mem_append_right _ h)) hown hK hP 0 rfl rfl 0 (by decide) (hts (.fieldLink RX8 7 "WinterWalkModel" "slot" "[I") (List.mem_of_getElem? (i := 1) rfl)) (fun _ h9 => h9) rfl dX8_walks_88 ?_
  refine lv_iload_n hx hb dX8_walks_91 rfl (lv_at hl 3 rfl) ?_
  refine lv_bipush (v := 57) hx hb dX8_walks_92 (by decide) ?_
  refine lv_imul hx hb dX8_walks_94 ?_
  refine lv_topi (fun x_26 ex_26 => ?_)
  have e_26 : x_26.toInt = k.toInt * 57 := by rw [ex_26]; exact zi_mul (rfl) (by decide) (by omega) (by omega)
  clear ex_26
  refine lv_iconst (v := 0) hx hb dX8_walks_95 (by decide) ?_
  refine lv_iadd hx hb dX8_walks_96 ?_
  refine lv_topi (fun x_27 ex_27 => ?_)
  have e_27 : x_27.toInt = x_26.toInt + 0 := by rw [ex_27]; exact zi_add (rfl) (by decide) (by omega) (by omega)
  clear ex_27
  refine va_iald hx hb hK hP 1 0 rfl rfl (zi_in (by omega) (by omega)) dX8_walks_97 ?_
  refine lv_topi (fun x_28 ex_28 => ?_)
  clear ex_28
  refine va_iast hx hb hK hP hD hS 1 0 rfl rfl (zi_in (by omega) (by omega)) dX8_walks_98 (fun H locs hP hD hS => ?_)
  have hP : va_P D kl [(h, .inr (7, [.ref sl, .int na, .ref zs, .ref ln, .ref ir, .ref tk, .int su, .int le, .ref tb, .int fu, .int ap, .int pp, .ref tr, .int tc, .ref fz, .int nm])), (sl, .inl (cI, 1653, .inl (upd (upd (upd (upd sf (x_8 : Int32).toNatClampNeg x_4) (x_13 : Int32).toNatClampNeg r_5) (x_18 : Int32).toNatClampNeg x_20) (x_25 : Int32).toNatClampNeg x_28)))] H := hP
  have hD : va_D A [(h, .inr (7, [.ref sl, .int na, .ref zs, .ref ln, .ref ir, .ref tk, .int su, .int le, .ref tb, .int fu, .int ap, .int pp, .ref tr, .int tc, .ref fz, .int nm])), (sl, .inl (cI, 1653, .inl (upd (upd (upd (upd sf (x_8 : Int32).toNatClampNeg x_4) (x_13 : Int32).toNatClampNeg r_5) (x_18 : Int32).toNatClampNeg x_20) (x_25 : Int32).toNatClampNeg x_28)))] := hD
  have ha_29 : SI (upd (upd (upd (upd sf (x_8 : Int32).toNatClampNeg x_4) (x_13 : Int32).toNatClampNeg r_5) (x_18 : Int32).toNatClampNeg x_20) (x_25 : Int32).toNatClampNeg x_28) v0 := si_up ha_21 (by omega) (fun s0 a0 b0 e0 => by omega) (fun s0 a0 b0 e0 => by omega) (fun s0 k0 a0 b0 c0 d0 e0 => by omega) (by omega)
  have hf_30 : FRM (57 * k.toInt + 31) (57 * k.toInt + 57) sf (upd (upd (upd (upd sf (x_8 : Int32).toNatClampNeg x_4) (x_13 : Int32).toNatClampNeg r_5) (x_18 : Int32).toNatClampNeg x_20) (x_25 : Int32).toNatClampNeg x_28) := FRM.up hf_22 (by omega)
  refine lv_iconst (v := 0) hx hb dX8_walks_99 (by decide) ?_
  refine lv_istore (lv' := [(5, .int 0), (4, .int r_5), (3, .int x_4), (0, .ref h), (1, .int k), (2, .int v)]) hx hb dX8_walks_100 hl (by decide) rfl (fun ls hl => ?_)
  have hL102 : ∀ (nf : Nat) (t5_c102 : Int32) (g0_c102 : Nat → Int32) (H : Heap) (locs : List Loc) (ls : Array Slot), (0 ≤ t5_c102.toInt ∧ t5_c102.toInt ≤ 8) → (SI g0_c102 v0) → (FRM (57 * k.toInt + 31) (57 * k.toInt + 57) sf g0_c102) → (8 - t5_c102.toInt).toNat < nf → va_P D kl [(h, .inr (7, [.ref sl, .int na, .ref zs, .ref ln, .ref ir, .ref tk, .int su, .int le, .ref tb, .int fu, .int ap, .int pp, .ref tr, .int tc, .ref fz, .int nm])), (sl, .inl (cI, 1653, .inl g0_c102))] H → va_D A [(h, .inr (7, [.ref sl, .int na, .ref zs, .ref ln, .ref ir, .ref tk, .int su, .int le, .ref tb, .int fu, .int ap, .int pp, .ref tr, .int tc, .ref fz, .int nm])), (sl, .inl (cI, 1653, .inl g0_c102))] → va_S A s.heap H locs → lv_has ls 7 [(5, .int t5_c102), (4, .int r_5), (3, .int x_4), (0, .ref h), (1, .int k), (2, .int v)] → W p l e ({ frames := 3, cells := 0, slots := 0, locals := 73 }) s m ([.ref h, .int k, .int v] : List Value).toArray below meth c H locs 0 0 (MQ below (va_Qv (fun (u : (Nat → Int32)) => (FRM (57 * k.toInt + 31) (57 * k.toInt + 57) sf u) ∧ (SI u v0)) (fun u t => wb D A ((fun u => [(h, .inr (7, [.ref sl, .int na, .ref zs, .ref ln, .ref ir, .ref tk, .int su, .int le, .ref tb, .int fu, .int ap, .int pp, .ref tr, .int tc, .ref fz, .int nm])), (sl, .inl (cI, 1653, .inl u))]) u) t) A) ([.ref h, .int k, .int v] : List Value).toArray s 0 0 A) (F0 m 102 ls []) := by
    intro nf
    induction nf with
    | zero =>
      intro t5_c102 g0_c102 H locs ls i_t5_c102 ha_g0_c102 hf_c102 hm
      exact absurd hm (Nat.not_lt_zero _)
    | succ nf ih102 =>
      intro t5_c102 g0_c102 H locs ls i_t5_c102 ha_g0_c102 hf_c102 hm102 hP hD hS hl
      refine lv_iload hx hb dX8_walks_102 (lv_at hl 0 rfl) ?_
      refine lv_bipush (v := 8) hx hb dX8_walks_104 (by decide) ?_
      refine lv_icmp_ge (tgt := 203) hx hb dX8_walks_106 (by decide) (fun c_31 => ?_) (fun c_31 => ?_)
      · have f_31 : 8 ≤ t5_c102.toInt := zi_le c_31
        refine lv_aload_n hx hb dX8_walks_203 rfl (lv_at hl 3 rfl) ?_
        refine va_get (D := D) (ci := 7) (v := .ref sl) (C := RX8) (T := TX8) (N := 16) hx hb hts (fun _ h => List.mem_cons_of_mem _ (List.mem_append_right _ h)) hown hK hP 0 rfl rfl 0 (by decide) (hts (.fieldLink RX8 7 "WinterWalkModel" "slot" "[I") (List.mem_of_getElem? (i := 1) rfl)) (fun _ h9 => h9) rfl dX8_walks_204 ?_
        refine lv_iload_n hx hb dX8_walks_207 rfl (lv_at hl 4 rfl) ?_
        refine lv_bipush (v := 57) hx hb dX8_walks_208 (by decide) ?_
        refine lv_imul hx hb dX8_walks_210 ?_
        refine lv_topi (fun x_32 ex_32 => ?_)
        have e_32 : x_32.toInt = k.toInt * 57 := by rw [ex_32]; exact zi_mul (rfl) (by decide) (by omega) (by omega)
        clear ex_32
        refine lv_bipush (v := 55) hx hb dX8_walks_211 (by decide) ?_
        refine lv_iadd hx hb dX8_walks_213 ?_
        refine lv_topi (fun x_33 ex_33 => ?_)
        have e_33 : x_33.toInt = x_32.toInt + 55 := by rw [ex_33]; exact zi_add (rfl) (by decide) (by omega) (by omega)
        clear ex_33
        refine lv_dup2_11 hx hb dX8_walks_214 rfl rfl ?_
        refine va_iald hx hb hK hP 1 0 rfl rfl (zi_in (by omega) (by omega)) dX8_walks_215 ?_
        refine lv_topi (fun x_34 ex_34 => ?_)
        clear ex_34
        refine lv_aload_n hx hb dX8_walks_216 rfl (lv_at hl 3 rfl) ?_
        refine va_get (D := D) (ci := 7) (v := .ref sl) (C := RX8) (T := TX8) (N := 16) hx hb hts (fun _ h => List.mem_cons_of_mem _ (List.mem_append_right _ h)) hown hK hP 0 rfl rfl 0 (by decide) (hts (.fieldLink RX8 7 "WinterWalkModel" "slot" "[I") (List.mem_of_getElem? (i := 1) rfl)) (fun _ h9 => h9) rfl dX8_walks_217 ?_
        refine lv_iload_n hx hb dX8_walks_220 rfl (lv_at hl 4 rfl) ?_
        refine lv_bipush (v := 57) hx hb dX8_walks_221 (by decide) ?_
        refine lv_imul hx hb dX8_walks_223 ?_
        refine lv_topi (fun x_35 ex_35 => ?_)
        have e_35 : x_35.toInt = k.toInt * 57 := by rw [ex_35]; exact zi_mul (rfl) (by decide) (by omega) (by omega)
        clear ex_35
        refine lv_iconst (v := 4) hx hb dX8_walks_224 (by decide) ?_
        refine lv_iadd hx hb dX8_walks_225 ?_
        refine lv_topi (fun x_36 ex_36 => ?_)
        have e_36 : x_36.toInt = x_35.toInt + 4 := by rw [ex_36]; exact zi_add (rfl) (by decide) (by omega) (by omega)
        clear ex_36
        refine lv_iload hx hb dX8_walks_226 (lv_at hl 1 rfl) ?_
        refine lv_iadd hx hb dX8_walks_228 ?_
        refine lv_topi (fun x_37 ex_37 => ?_)
        have e_37 : x_37.toInt = x_36.toInt + r_5.toInt := by rw [ex_37]; exact zi_add (rfl) (rfl) (by omega) (by omega)
        clear ex_37
        refine va_iald hx hb hK hP 1 0 rfl rfl (zi_in (by omega) (by omega)) dX8_walks_229 ?_
        refine lv_topi (fun x_38 ex_38 => ?_)
        clear ex_38
        refine lv_iadd hx hb dX8_walks_230 ?_
        refine lv_topi (fun x_39 ex_39 => ?_)
        clear ex_39
        refine va_iast hx hb hK hP hD hS 1 0 rfl rfl (zi_in (by omega) (by omega)) dX8_walks_231 (fun H locs hP hD hS => ?_)
        have hP : va_P D kl [(h, .inr (7, [.ref sl, .int na, .ref zs, .ref ln, .ref ir, .ref tk, .int su, .int le, .ref tb, .int fu, .int ap, .int pp, .ref tr, .int tc, .ref fz, .int nm])), (sl, .inl (cI, 1653, .inl (upd g0_c102 (x_33 : Int32).toNatClampNeg x_39)))] H := hP
        have hD : va_D A [(h, .inr (7, [.ref sl, .int na, .ref zs, .ref ln, .ref ir, .ref tk, .int su, .int le, .ref tb, .int fu, .int ap, .int pp, .ref tr, .int tc, .ref fz, .int nm])), (sl, .inl (cI, 1653, .inl (upd g0_c102 (x_33 : Int32).toNatClampNeg x_39)))] := hD
        have ha_40 : SI (upd g0_c102 (x_33 : Int32).toNatClampNeg x_39) v0 := si_up ha_g0_c102 (by omega) (fun s0 a0 b0 e0 => by omega) (fun s0 a0 b0 e0 => by omega) (fun s0 k0 a0 b0 c0 d0 e0 => by omega) (by omega)
        have hf_41 : FRM (57 * k.toInt + 31) (57 * k.toInt + 57) sf (upd g0_c102 (x_33 : Int32).toNatClampNeg x_39) := FRM.up hf_c102 (by omega)
        refine lv_aload_n hx hb dX8_walks_232 rfl (lv_at hl 3 rfl) ?_
        refine va_get (D := D) (ci := 7) (v := .ref sl) (C := RX8) (T := TX8) (N := 16) hx hb hts (fun _ h => List.mem_cons_of_mem _ (List.mem_append_right _ h)) hown hK hP 0 rfl rfl 0 (by decide) (hts (.fieldLink RX8 7 "WinterWalkModel" "slot" "[I") (List.mem_of_getElem? (i := 1) rfl)) (fun _ h9 => h9) rfl dX8_walks_233 ?_
        refine lv_iload_n hx hb dX8_walks_236 rfl (lv_at hl 4 rfl) ?_
        refine lv_bipush (v := 57) hx hb dX8_walks_237 (by decide) ?_
        refine lv_imul hx hb dX8_walks_239 ?_
        refine lv_topi (fun x_42 ex_42 => ?_)
        have e_42 : x_42.toInt = k.toInt * 57 := by rw [ex_42]; exact zi_mul (rfl) (by decide) (by omega) (by omega)
        clear ex_42
        refine lv_bipush (v := 56) hx hb dX8_walks_240 (by decide) ?_
        refine lv_iadd hx hb dX8_walks_242 ?_
        refine lv_topi (fun x_43 ex_43 => ?_)
        have e_43 : x_43.toInt = x_42.toInt + 56 := by rw [ex_43]; exact zi_add (rfl) (by decide) (by omega) (by omega)
        clear ex_43
        refine lv_dup2_11 hx hb dX8_walks_243 rfl rfl ?_
        refine va_iald hx hb hK hP 1 0 rfl rfl (zi_in (by omega) (by omega)) dX8_walks_244 ?_
        refine lv_topi (fun x_44 ex_44 => ?_)
        clear ex_44
        refine lv_aload_n hx hb dX8_walks_245 rfl (lv_at hl 3 rfl) ?_
        refine va_get (D := D) (ci := 7) (v := .ref sl) (C := RX8) (T := TX8) (N := 16) hx hb hts (fun _ h => List.mem_cons_of_mem _ (List.mem_append_right _ h)) hown hK hP 0 rfl rfl 0 (by decide) (hts (.fieldLink RX8 7 "WinterWalkModel" "slot" "[I") (List.mem_of_getElem? (i := 1) rfl)) (fun _ h9 => h9) rfl dX8_walks_246 ?_
        refine lv_iload_n hx hb dX8_walks_249 rfl (lv_at hl 4 rfl) ?_
        refine lv_bipush (v := 57) hx hb dX8_walks_250 (by decide) ?_
        refine lv_imul hx hb dX8_walks_252 ?_
        refine lv_topi (fun x_45 ex_45 => ?_)
        have e_45 : x_45.toInt = k.toInt * 57 := by rw [ex_45]; exact zi_mul (rfl) (by decide) (by omega) (by omega)
        clear ex_45
        refine lv_bipush (v := 20) hx hb dX8_walks_253 (by decide) ?_
        refine lv_iadd hx hb dX8_walks_255 ?_
        refine lv_topi (fun x_46 ex_46 => ?_)
        have e_46 : x_46.toInt = x_45.toInt + 20 := by rw [ex_46]; exact zi_add (rfl) (by decide) (by omega) (by omega)
        clear ex_46
        refine lv_iload_n hx hb dX8_walks_256 rfl (lv_at hl 5 rfl) ?_
        refine lv_iadd hx hb dX8_walks_257 ?_
        refine lv_topi (fun x_47 ex_47 => ?_)
        have e_47 : x_47.toInt = x_46.toInt + v.toInt := by rw [ex_47]; exact zi_add (rfl) (rfl) (by omega) (by omega)
        clear ex_47
        refine va_iald hx hb hK hP 1 0 rfl rfl (zi_in (by omega) (by omega)) dX8_walks_258 ?_
        refine lv_topi (fun x_48 ex_48 => ?_)
        clear ex_48
        refine lv_iconst (v := 4) hx hb dX8_walks_259 (by decide) ?_
        refine lv_icmp_ge (tgt := 281) hx hb dX8_walks_260 (by decide) (fun c_49 => ?_) (fun c_49 => ?_)
        · have f_49 : 4 ≤ x_48.toInt := zi_le c_49
          refine lv_iconst (v := 0) hx hb dX8_walks_281 (by decide) ?_
          refine lv_iadd hx hb dX8_walks_282 ?_
          refine lv_topi (fun x_50 ex_50 => ?_)
          clear ex_50
          refine va_iast hx hb hK hP hD hS 1 0 rfl rfl (zi_in (by omega) (by omega)) dX8_walks_283 (fun H locs hP hD hS => ?_)
          have hP : va_P D kl [(h, .inr (7, [.ref sl, .int na, .ref zs, .ref ln, .ref ir, .ref tk, .int su, .int le, .ref tb, .int fu, .int ap, .int pp, .ref tr, .int tc, .ref fz, .int nm])), (sl, .inl (cI, 1653, .inl (upd (upd g0_c102 (x_33 : Int32).toNatClampNeg x_39) (x_43 : Int32).toNatClampNeg x_50)))] H := hP
          have hD : va_D A [(h, .inr (7, [.ref sl, .int na, .ref zs, .ref ln, .ref ir, .ref tk, .int su, .int le, .ref tb, .int fu, .int ap, .int pp, .ref tr, .int tc, .ref fz, .int nm])), (sl, .inl (cI, 1653, .inl (upd (upd g0_c102 (x_33 : Int32).toNatClampNeg x_39) (x_43 : Int32).toNatClampNeg x_50)))] := hD
          have ha_51 : SI (upd (upd g0_c102 (x_33 : Int32).toNatClampNeg x_39) (x_43 : Int32).toNatClampNeg x_50) v0 := si_up ha_40 (by omega) (fun s0 a0 b0 e0 => by omega) (fun s0 a0 b0 e0 => by omega) (fun s0 k0 a0 b0 c0 d0 e0 => by omega) (by omega)
          have hf_52 : FRM (57 * k.toInt + 31) (57 * k.toInt + 57) sf (upd (upd g0_c102 (x_33 : Int32).toNatClampNeg x_39) (x_43 : Int32).toNatClampNeg x_50) := FRM.up hf_41 (by omega)
          exact wr_v hx hb hr hlocks hS (upd (upd g0_c102 (x_33 : Int32).toNatClampNeg x_39) (x_43 : Int32).toNatClampNeg x_50) (by exact ⟨show FRM (57 * k.toInt + 31) (57 * k.toInt + 57) sf (upd (upd g0_c102 (x_33 : Int32).toNatClampNeg x_39) (x_43 : Int32).toNatClampNeg x_50) from hf_52, ha_51⟩) (hP.sub [0, 1] rfl) (hD.sub [0, 1] (by decide) rfl) dX8_walks_284
        · have f_49 : ¬ 4 ≤ x_48.toInt := zi_nle c_49
          refine lv_aload_n hx hb dX8_walks_263 rfl (lv_at hl 3 rfl) ?_
          refine va_get (D := D) (ci := 7) (v := .ref sl) (C := RX8) (T := TX8) (N := 16) hx hb hts (fun _ h => List.mem_cons_of_mem _ (List.mem_append_right _ h)) hown hK hP 0 rfl rfl 0 (by decide) (hts (.fieldLink RX8 7 "WinterWalkModel" "slot" "[I") (List.mem_of_getElem? (i := 1) rfl)) (fun _ h9 => h9) rfl dX8_walks_264 ?_
          refine lv_iload_n hx hb dX8_walks_267 rfl (lv_at hl 4 rfl) ?_
          refine lv_bipush (v := 57) hx hb dX8_walks_268 (by decide) ?_
          refine lv_imul hx hb dX8_walks_270 ?_
          refine lv_topi (fun x_53 ex_53 => ?_)
          have e_53 : x_53.toInt = k.toInt * 57 := by rw [ex_53]; exact zi_mul (rfl) (by decide) (by omega) (by omega)
          clear ex_53
          refine lv_bipush (v := 23) hx hb dX8_walks_271 (by decide) ?_
          refine lv_iadd hx hb dX8_walks_273 ?_
          refine lv_topi (fun x_54 ex_54 => ?_)
          have e_54 : x_54.toInt = x_53.toInt + 23 := by rw [ex_54]; exact zi_add (rfl) (by decide) (by omega) (by omega)
          clear ex_54
          refine lv_iload hx hb dX8_walks_274 (lv_at hl 1 rfl) ?_
          refine lv_iadd hx hb dX8_walks_276 ?_
          refine lv_topi (fun x_55 ex_55 => ?_)
          have e_55 : x_55.toInt = x_54.toInt + r_5.toInt := by rw [ex_55]; exact zi_add (rfl) (rfl) (by omega) (by omega)
          clear ex_55
          refine va_iald hx hb hK hP 1 0 rfl rfl (zi_in (by omega) (by omega)) dX8_walks_277 ?_
          refine lv_topi (fun x_56 ex_56 => ?_)
          clear ex_56
          refine lv_goto (tgt := 282) hx hb dX8_walks_278 (by decide) ?_
          refine lv_iadd hx hb dX8_walks_282 ?_
          refine lv_topi (fun x_57 ex_57 => ?_)
          clear ex_57
          refine va_iast hx hb hK hP hD hS 1 0 rfl rfl (zi_in (by omega) (by omega)) dX8_walks_283 (fun H locs hP hD hS => ?_)
          have hP : va_P D kl [(h, .inr (7, [.ref sl, .int na, .ref zs, .ref ln, .ref ir, .ref tk, .int su, .int le, .ref tb, .int fu, .int ap, .int pp, .ref tr, .int tc, .ref fz, .int nm])), (sl, .inl (cI, 1653, .inl (upd (upd g0_c102 (x_33 : Int32).toNatClampNeg x_39) (x_43 : Int32).toNatClampNeg x_57)))] H := hP
          have hD : va_D A [(h, .inr (7, [.ref sl, .int na, .ref zs, .ref ln, .ref ir, .ref tk, .int su, .int le, .ref tb, .int fu, .int ap, .int pp, .ref tr, .int tc, .ref fz, .int nm])), (sl, .inl (cI, 1653, .inl (upd (upd g0_c102 (x_33 : Int32).toNatClampNeg x_39) (x_43 : Int32).toNatClampNeg x_57)))] := hD
          have ha_58 : SI (upd (upd g0_c102 (x_33 : Int32).toNatClampNeg x_39) (x_43 : Int32).toNatClampNeg x_57) v0 := si_up ha_40 (by omega) (fun s0 a0 b0 e0 => by omega) (fun s0 a0 b0 e0 => by omega) (fun s0 k0 a0 b0 c0 d0 e0 => by omega) (by omega)
          have hf_59 : FRM (57 * k.toInt + 31) (57 * k.toInt + 57) sf (upd (upd g0_c102 (x_33 : Int32).toNatClampNeg x_39) (x_43 : Int32).toNatClampNeg x_57) := FRM.up hf_41 (by omega)
          exact wr_v hx hb hr hlocks hS (upd (upd g0_c102 (x_33 : Int32).toNatClampNeg x_39) (x_43 : Int32).toNatClampNeg x_57) (by exact ⟨show FRM (57 * k.toInt + 31) (57 * k.toInt + 57) sf (upd (upd g0_c102 (x_33 : Int32).toNatClampNeg x_39) (x_43 : Int32).toNatClampNeg x_57) from hf_59, ha_58⟩) (hP.sub [0, 1] rfl) (hD.sub [0, 1] (by decide) rfl) dX8_walks_284
      · have f_31 : ¬ 8 ≤ t5_c102.toInt := zi_nle c_31
        refine lv_aload_n hx hb dX8_walks_109 rfl (lv_at hl 3 rfl) ?_
        refine va_get (D := D) (ci := 7) (v := .ref sl) (C := RX8) (T := TX8) (N := 16) hx hb hts (fun _ h => List.mem_cons_of_mem _ (List.mem_append_right _ h)) hown hK hP 0 rfl rfl 0 (by decide) (hts (.fieldLink RX8 7 "WinterWalkModel" "slot" "[I") (List.mem_of_getElem? (i := 1) rfl)) (fun _ h9 => h9) rfl dX8_walks_110 ?_
        refine lv_iload_n hx hb dX8_walks_113 rfl (lv_at hl 4 rfl) ?_
        refine lv_bipush (v := 57) hx hb dX8_walks_114 (by decide) ?_
        refine lv_imul hx hb dX8_walks_116 ?_
        refine lv_topi (fun x_60 ex_60 => ?_)
        have e_60 : x_60.toInt = k.toInt * 57 := by rw [ex_60]; exact zi_mul (rfl) (by decide) (by omega) (by omega)
        clear ex_60
        refine lv_bipush (v := 12) hx hb dX8_walks_117 (by decide) ?_
        refine lv_iadd hx hb dX8_walks_119 ?_
        refine lv_topi (fun x_61 ex_61 => ?_)
        have e_61 : x_61.toInt = x_60.toInt + 12 := by rw [ex_61]; exact zi_add (rfl) (by decide) (by omega) (by omega)
        clear ex_61
        refine lv_iload hx hb dX8_walks_120 (lv_at hl 1 rfl) ?_
        refine lv_iadd hx hb dX8_walks_122 ?_
        refine lv_topi (fun x_62 ex_62 => ?_)
        have e_62 : x_62.toInt = x_61.toInt + r_5.toInt := by rw [ex_62]; exact zi_add (rfl) (rfl) (by omega) (by omega)
        clear ex_62
        refine va_iald hx hb hK hP 1 0 rfl rfl (zi_in (by omega) (by omega)) dX8_walks_123 ?_
        refine lv_topi (fun x_63 ex_63 => ?_)
        clear ex_63
        refine lv_iload hx hb dX8_walks_124 (lv_at hl 0 rfl) ?_
        have k_64 := (p_X8_has l D cI cB cQ H.size x_63 t5_c102)
        refine wc_i (WC := []) (WR := [(h, .inr (7, [.ref sl, .int na, .ref zs, .ref ln, .ref ir, .ref tk, .int su, .int le, .ref tb, .int fu, .int ap, .int pp, .ref tr, .int tc, .ref fz, .int nm])), (sl, .inl (cI, 1653, .inl g0_c102))]) (va_runS (As := [.int x_63, .int t5_c102]) (rest := []) ⟨hx, hb, hml, hown, hts⟩ k_64 (va_cwS 2 hts gX8_walks_X8_has rfl rfl rfl (by decide +kernel) ⟨Nat.le_of_ble_eq_true rfl, Nat.le_of_ble_eq_true rfl⟩) (wp_S hP hK hD hN [] (by decide) rfl) rfl rfl hl.1 rfl (lv_room (Nat.le_of_ble_eq_true rfl)) dX8_walks_126 ⟨Nat.le_of_ble_eq_true rfl, Nat.le_of_ble_eq_true rfl⟩) hP hD hS hA [] [0, 1] rfl rfl (by decide) (by decide) (fun r_64 u_64 H locs hw_64 hP hD hS => ?_)
        clear k_64
        have hP : va_P D kl [(h, .inr (7, [.ref sl, .int na, .ref zs, .ref ln, .ref ir, .ref tk, .int su, .int le, .ref tb, .int fu, .int ap, .int pp, .ref tr, .int tc, .ref fz, .int nm])), (sl, .inl (cI, 1653, .inl g0_c102))] H := hP
        have hD : va_D A [(h, .inr (7, [.ref sl, .int na, .ref zs, .ref ln, .ref ir, .ref tk, .int su, .int le, .ref tb, .int fu, .int ap, .int pp, .ref tr, .int tc, .ref fz, .int nm])), (sl, .inl (cI, 1653, .inl g0_c102))] := hD
        have c64_0 := hw_64
        rcases c64_0 with ⟨e_64, f_64⟩ | ⟨e_64, f_64⟩
        · subst e_64
          have f_64 : tbi x_63 t5_c102.toInt = 1 := f_64
          refine lv_if_eq (tgt := 155) hx hb dX8_walks_129 (by decide) (fun c9 => absurd c9 (by decide)) (fun _ => ?_)
          refine lv_aload_n hx hb dX8_walks_132 rfl (lv_at hl 3 rfl) ?_
          refine va_get (D := D) (ci := 7) (v := .ref sl) (C := RX8) (T := TX8) (N := 16) hx hb hts (fun _ h => List.mem_cons_of_mem _ (List.mem_append_right _ h)) hown hK hP 0 rfl rfl 0 (by decide) (hts (.fieldLink RX8 7 "WinterWalkModel" "slot" "[I") (List.mem_of_getElem? (i := 1) rfl)) (fun _ h9 => h9) rfl dX8_walks_133 ?_
          refine lv_iload_n hx hb dX8_walks_136 rfl (lv_at hl 4 rfl) ?_
          refine lv_bipush (v := 57) hx hb dX8_walks_137 (by decide) ?_
          refine lv_imul hx hb dX8_walks_139 ?_
          refine lv_topi (fun x_65 ex_65 => ?_)
          have e_65 : x_65.toInt = k.toInt * 57 := by rw [ex_65]; exact zi_mul (rfl) (by decide) (by omega) (by omega)
          clear ex_65
          refine lv_bipush (v := 32) hx hb dX8_walks_140 (by decide) ?_
          refine lv_iadd hx hb dX8_walks_142 ?_
          refine lv_topi (fun x_66 ex_66 => ?_)
          have e_66 : x_66.toInt = x_65.toInt + 32 := by rw [ex_66]; exact zi_add (rfl) (by decide) (by omega) (by omega)
          clear ex_66
          refine lv_iload hx hb dX8_walks_143 (lv_at hl 0 rfl) ?_
          refine lv_iadd hx hb dX8_walks_145 ?_
          refine lv_topi (fun x_67 ex_67 => ?_)
          have e_67 : x_67.toInt = x_66.toInt + t5_c102.toInt := by rw [ex_67]; exact zi_add (rfl) (rfl) (by omega) (by omega)
          clear ex_67
          refine va_iald hx hb hK hP 1 0 rfl rfl (zi_in (by omega) (by omega)) dX8_walks_146 ?_
          refine lv_topi (fun x_68 ex_68 => ?_)
          clear ex_68
          refine lv_iconst (v := 1) hx hb dX8_walks_147 (by decide) ?_
          refine lv_icmp_ge (tgt := 155) hx hb dX8_walks_148 (by decide) (fun c_69 => ?_) (fun c_69 => ?_)
          · have f_69 : 1 ≤ x_68.toInt := zi_le c_69
            refine lv_iconst (v := 0) hx hb dX8_walks_155 (by decide) ?_
            refine lv_istore (lv' := [(6, .int 0), (5, .int t5_c102), (4, .int r_5), (3, .int x_4), (0, .ref h), (1, .int k), (2, .int v)]) hx hb dX8_walks_156 hl (by decide) rfl (fun ls hl => ?_)
            refine lv_aload_n hx hb dX8_walks_158 rfl (lv_at hl 4 rfl) ?_
            refine va_get (D := D) (ci := 7) (v := .ref sl) (C := RX8) (T := TX8) (N := 16) hx hb hts (fun _ h => List.mem_cons_of_mem _ (List.mem_append_right _ h)) hown hK hP 0 rfl rfl 0 (by decide) (hts (.fieldLink RX8 7 "WinterWalkModel" "slot" "[I") (List.mem_of_getElem? (i := 1) rfl)) (fun _ h9 => h9) rfl dX8_walks_159 ?_
            refine lv_iload_n hx hb dX8_walks_162 rfl (lv_at hl 5 rfl) ?_
            refine lv_bipush (v := 57) hx hb dX8_walks_163 (by decide) ?_
            refine lv_imul hx hb dX8_walks_165 ?_
            refine lv_topi (fun x_70 ex_70 => ?_)
            have e_70 : x_70.toInt = k.toInt * 57 := by rw [ex_70]; exact zi_mul (rfl) (by decide) (by omega) (by omega)
            clear ex_70
            refine lv_bipush (v := 32) hx hb dX8_walks_166 (by decide) ?_
            refine lv_iadd hx hb dX8_walks_168 ?_
            refine lv_topi (fun x_71 ex_71 => ?_)
            have e_71 : x_71.toInt = x_70.toInt + 32 := by rw [ex_71]; exact zi_add (rfl) (by decide) (by omega) (by omega)
            clear ex_71
            refine lv_iload hx hb dX8_walks_169 (lv_at hl 1 rfl) ?_
            refine lv_iadd hx hb dX8_walks_171 ?_
            refine lv_topi (fun x_72 ex_72 => ?_)
            have e_72 : x_72.toInt = x_71.toInt + t5_c102.toInt := by rw [ex_72]; exact zi_add (rfl) (rfl) (by omega) (by omega)
            clear ex_72
            refine lv_iload hx hb dX8_walks_172 (lv_at hl 0 rfl) ?_
            refine lv_if_eq (tgt := 181) hx hb dX8_walks_174 (by decide) (fun _ => ?_) (fun c9 => absurd (by decide) c9)
            refine lv_aload_n hx hb dX8_walks_181 rfl (lv_at hl 4 rfl) ?_
            refine va_get (D := D) (ci := 7) (v := .ref sl) (C := RX8) (T := TX8) (N := 16) hx hb hts (fun _ h => List.mem_cons_of_mem _ (List.mem_append_right _ h)) hown hK hP 0 rfl rfl 0 (by decide) (hts (.fieldLink RX8 7 "WinterWalkModel" "slot" "[I") (List.mem_of_getElem? (i := 1) rfl)) (fun _ h9 => h9) rfl dX8_walks_182 ?_
            refine lv_iload_n hx hb dX8_walks_185 rfl (lv_at hl 5 rfl) ?_
            refine lv_bipush (v := 57) hx hb dX8_walks_186 (by decide) ?_
            refine lv_imul hx hb dX8_walks_188 ?_
            refine lv_topi (fun x_73 ex_73 => ?_)
            have e_73 : x_73.toInt = k.toInt * 57 := by rw [ex_73]; exact zi_mul (rfl) (by decide) (by omega) (by omega)
            clear ex_73
            refine lv_bipush (v := 32) hx hb dX8_walks_189 (by decide) ?_
            refine lv_iadd hx hb dX8_walks_191 ?_
            refine lv_topi (fun x_74 ex_74 => ?_)
            have e_74 : x_74.toInt = x_73.toInt + 32 := by rw [ex_74]; exact zi_add (rfl) (by decide) (by omega) (by omega)
            clear ex_74
            refine lv_iload hx hb dX8_walks_192 (lv_at hl 1 rfl) ?_
            refine lv_iadd hx hb dX8_walks_194 ?_
            refine lv_topi (fun x_75 ex_75 => ?_)
            have e_75 : x_75.toInt = x_74.toInt + t5_c102.toInt := by rw [ex_75]; exact zi_add (rfl) (rfl) (by omega) (by omega)
            clear ex_75
            refine va_iald hx hb hK hP 1 0 rfl rfl (zi_in (by omega) (by omega)) dX8_walks_195 ?_
            refine lv_topi (fun x_76 ex_76 => ?_)
            clear ex_76
            refine va_iast hx hb hK hP hD hS 1 0 rfl rfl (zi_in (by omega) (by omega)) dX8_walks_196 (fun H locs hP hD hS => ?_)
            have hP : va_P D kl [(h, .inr (7, [.ref sl, .int na, .ref zs, .ref ln, .ref ir, .ref tk, .int su, .int le, .ref tb, .int fu, .int ap, .int pp, .ref tr, .int tc, .ref fz, .int nm])), (sl, .inl (cI, 1653, .inl (upd g0_c102 (x_72 : Int32).toNatClampNeg x_76)))] H := hP
            have hD : va_D A [(h, .inr (7, [.ref sl, .int na, .ref zs, .ref ln, .ref ir, .ref tk, .int su, .int le, .ref tb, .int fu, .int ap, .int pp, .ref tr, .int tc, .ref fz, .int nm])), (sl, .inl (cI, 1653, .inl (upd g0_c102 (x_72 : Int32).toNatClampNeg x_76)))] := hD
            have ha_77 : SI (upd g0_c102 (x_72 : Int32).toNatClampNeg x_76) v0 := si_up ha_g0_c102 (by omega) (fun s0 a0 b0 e0 => by omega) (fun s0 a0 b0 e0 => by omega) (fun s0 k0 a0 b0 c0 d0 e0 => by omega) (by omega)
            have hf_78 : FRM (57 * k.toInt + 31) (57 * k.toInt + 57) sf (upd g0_c102 (x_72 : Int32).toNatClampNeg x_76) := FRM.up hf_c102 (by omega)
            obtain ⟨x_79, ex_79⟩ : ∃ y : Int32, y = t5_c102 + Int32.ofInt 1 := ⟨_, rfl⟩
            refine lv_iinc (v := x_79) (lv' := [(5, .int x_79), (6, .int 0), (4, .int r_5), (3, .int x_4), (0, .ref h), (1, .int k), (2, .int v)]) hx hb dX8_walks_197 hl (k := 1) rfl ex_79.symm (by decide) rfl (fun ls hl => ?_)
            have ex_79 : x_79 = t5_c102 + 1 := ex_79
            have e_79 : x_79.toInt = t5_c102.toInt + 1 := by rw [ex_79]; exact zi_add (rfl) (by decide) (by omega) (by omega)
            clear ex_79
            refine lv_goto (tgt := 102) hx hb dX8_walks_200 (by decide) ?_
            exact ih102 x_79 (upd g0_c102 (x_72 : Int32).toNatClampNeg x_76) _ _ _ (show 0 ≤ x_79.toInt ∧ x_79.toInt ≤ 8 from by omega) ha_77 hf_78 (by omega) (hP.sub [0, 1] rfl) (hD.sub [0, 1] (by decide) rfl) hS (lv_sub hl [0, 2, 3, 4, 5, 6] rfl)
          · have f_69 : ¬ 1 ≤ x_68.toInt := zi_nle c_69
            refine lv_iconst (v := 1) hx hb dX8_walks_151 (by decide) ?_
            refine lv_goto (tgt := 156) hx hb dX8_walks_152 (by decide) ?_
            refine lv_istore (lv' := [(6, .int 1), (5, .int t5_c102), (4, .int r_5), (3, .int x_4), (0, .ref h), (1, .int k), (2, .int v)]) hx hb dX8_walks_156 hl (by decide) rfl (fun ls hl => ?_)
            refine lv_aload_n hx hb dX8_walks_158 rfl (lv_at hl 4 rfl) ?_
            refine va_get (D := D) (ci := 7) (v := .ref sl) (C := RX8) (T := TX8) (N := 16) hx hb hts (fun _ h => List.mem_cons_of_mem _ (List.mem_append_right _ h)) hown hK hP 0 rfl rfl 0 (by decide) (hts (.fieldLink RX8 7 "WinterWalkModel" "slot" "[I") (List.mem_of_getElem? (i := 1) rfl)) (fun _ h9 => h9) rfl dX8_walks_159 ?_
            refine lv_iload_n hx hb dX8_walks_162 rfl (lv_at hl 5 rfl) ?_
            refine lv_bipush (v := 57) hx hb dX8_walks_163 (by decide) ?_
            refine lv_imul hx hb dX8_walks_165 ?_
            refine lv_topi (fun x_80 ex_80 => ?_)
            have e_80 : x_80.toInt = k.toInt * 57 := by rw [ex_80]; exact zi_mul (rfl) (by decide) (by omega) (by omega)
            clear ex_80
            refine lv_bipush (v := 32) hx hb dX8_walks_166 (by decide) ?_
            refine lv_iadd hx hb dX8_walks_168 ?_
            refine lv_topi (fun x_81 ex_81 => ?_)
            have e_81 : x_81.toInt = x_80.toInt + 32 := by rw [ex_81]; exact zi_add (rfl) (by decide) (by omega) (by omega)
            clear ex_81
            refine lv_iload hx hb dX8_walks_169 (lv_at hl 1 rfl) ?_
            refine lv_iadd hx hb dX8_walks_171 ?_
            refine lv_topi (fun x_82 ex_82 => ?_)
            have e_82 : x_82.toInt = x_81.toInt + t5_c102.toInt := by rw [ex_82]; exact zi_add (rfl) (rfl) (by omega) (by omega)
            clear ex_82
            refine lv_iload hx hb dX8_walks_172 (lv_at hl 0 rfl) ?_
            refine lv_if_eq (tgt := 181) hx hb dX8_walks_174 (by decide) (fun c9 => absurd c9 (by decide)) (fun _ => ?_)
            refine lv_iconst (v := 1) hx hb dX8_walks_177 (by decide) ?_
            refine lv_goto (tgt := 196) hx hb dX8_walks_178 (by decide) ?_
            refine va_iast hx hb hK hP hD hS 1 0 rfl rfl (zi_in (by omega) (by omega)) dX8_walks_196 (fun H locs hP hD hS => ?_)
            have hP : va_P D kl [(h, .inr (7, [.ref sl, .int na, .ref zs, .ref ln, .ref ir, .ref tk, .int su, .int le, .ref tb, .int fu, .int ap, .int pp, .ref tr, .int tc, .ref fz, .int nm])), (sl, .inl (cI, 1653, .inl (upd g0_c102 (x_82 : Int32).toNatClampNeg 1)))] H := hP
            have hD : va_D A [(h, .inr (7, [.ref sl, .int na, .ref zs, .ref ln, .ref ir, .ref tk, .int su, .int le, .ref tb, .int fu, .int ap, .int pp, .ref tr, .int tc, .ref fz, .int nm])), (sl, .inl (cI, 1653, .inl (upd g0_c102 (x_82 : Int32).toNatClampNeg 1)))] := hD
            have ha_83 : SI (upd g0_c102 (x_82 : Int32).toNatClampNeg 1) v0 := si_up ha_g0_c102 (by omega) (fun s0 a0 b0 e0 => by first | decide | omega) (fun s0 a0 b0 e0 => by first | decide | omega) (fun s0 k0 a0 b0 c0 d0 e0 => by first | decide | omega) (by omega)
            have hf_84 : FRM (57 * k.toInt + 31) (57 * k.toInt + 57) sf (upd g0_c102 (x_82 : Int32).toNatClampNeg 1) := FRM.up hf_c102 (by omega)
            obtain ⟨x_85, ex_85⟩ : ∃ y : Int32, y = t5_c102 + Int32.ofInt 1 := ⟨_, rfl⟩
            refine lv_iinc (v := x_85) (lv' := [(5, .int x_85), (6, .int 1), (4, .int r_5), (3, .int x_4), (0, .ref h), (1, .int k), (2, .int v)]) hx hb dX8_walks_197 hl (k := 1) rfl ex_85.symm (by decide) rfl (fun ls hl => ?_)
            have ex_85 : x_85 = t5_c102 + 1 := ex_85
            have e_85 : x_85.toInt = t5_c102.toInt + 1 := by rw [ex_85]; exact zi_add (rfl) (by decide) (by omega) (by omega)
            clear ex_85
            refine lv_goto (tgt := 102) hx hb dX8_walks_200 (by decide) ?_
            exact ih102 x_85 (upd g0_c102 (x_82 : Int32).toNatClampNeg 1) _ _ _ (show 0 ≤ x_85.toInt ∧ x_85.toInt ≤ 8 from by omega) ha_83 hf_84 (by omega) (hP.sub [0, 1] rfl) (hD.sub [0, 1] (by decide) rfl) hS (lv_sub hl [0, 2, 3, 4, 5, 6] rfl)
        · subst e_64
          have f_64 : tbi x_63 t5_c102.toInt = 0 := f_64
          refine lv_if_eq (tgt := 155) hx hb dX8_walks_129 (by decide) (fun _ => ?_) (fun c9 => absurd (by decide) c9)
          refine lv_iconst (v := 0) hx hb dX8_walks_155 (by decide) ?_
          refine lv_istore (lv' := [(6, .int 0), (5, .int t5_c102), (4, .int r_5), (3, .int x_4), (0, .ref h), (1, .int k), (2, .int v)]) hx hb dX8_walks_156 hl (by decide) rfl (fun ls hl => ?_)
          refine lv_aload_n hx hb dX8_walks_158 rfl (lv_at hl 4 rfl) ?_
          refine va_get (D := D) (ci := 7) (v := .ref sl) (C := RX8) (T := TX8) (N := 16) hx hb hts (fun _ h => List.mem_cons_of_mem _ (List.mem_append_right _ h)) hown hK hP 0 rfl rfl 0 (by decide) (hts (.fieldLink RX8 7 "WinterWalkModel" "slot" "[I") (List.mem_of_getElem? (i := 1) rfl)) (fun _ h9 => h9) rfl dX8_walks_159 ?_
          refine lv_iload_n hx hb dX8_walks_162 rfl (lv_at hl 5 rfl) ?_
          refine lv_bipush (v := 57) hx hb dX8_walks_163 (by decide) ?_
          refine lv_imul hx hb dX8_walks_165 ?_
          refine lv_topi (fun x_86 ex_86 => ?_)
          have e_86 : x_86.toInt = k.toInt * 57 := by rw [ex_86]; exact zi_mul (rfl) (by decide) (by omega) (by omega)
          clear ex_86
          refine lv_bipush (v := 32) hx hb dX8_walks_166 (by decide) ?_
          refine lv_iadd hx hb dX8_walks_168 ?_
          refine lv_topi (fun x_87 ex_87 => ?_)
          have e_87 : x_87.toInt = x_86.toInt + 32 := by rw [ex_87]; exact zi_add (rfl) (by decide) (by omega) (by omega)
          clear ex_87
          refine lv_iload hx hb dX8_walks_169 (lv_at hl 1 rfl) ?_
          refine lv_iadd hx hb dX8_walks_171 ?_
          refine lv_topi (fun x_88 ex_88 => ?_)
          have e_88 : x_88.toInt = x_87.toInt + t5_c102.toInt := by rw [ex_88]; exact zi_add (rfl) (rfl) (by omega) (by omega)
          clear ex_88
          refine lv_iload hx hb dX8_walks_172 (lv_at hl 0 rfl) ?_
          refine lv_if_eq (tgt := 181) hx hb dX8_walks_174 (by decide) (fun _ => ?_) (fun c9 => absurd (by decide) c9)
          refine lv_aload_n hx hb dX8_walks_181 rfl (lv_at hl 4 rfl) ?_
          refine va_get (D := D) (ci := 7) (v := .ref sl) (C := RX8) (T := TX8) (N := 16) hx hb hts (fun _ h => List.mem_cons_of_mem _ (List.mem_append_right _ h)) hown hK hP 0 rfl rfl 0 (by decide) (hts (.fieldLink RX8 7 "WinterWalkModel" "slot" "[I") (List.mem_of_getElem? (i := 1) rfl)) (fun _ h9 => h9) rfl dX8_walks_182 ?_
          refine lv_iload_n hx hb dX8_walks_185 rfl (lv_at hl 5 rfl) ?_
          refine lv_bipush (v := 57) hx hb dX8_walks_186 (by decide) ?_
          refine lv_imul hx hb dX8_walks_188 ?_
          refine lv_topi (fun x_89 ex_89 => ?_)
          have e_89 : x_89.toInt = k.toInt * 57 := by rw [ex_89]; exact zi_mul (rfl) (by decide) (by omega) (by omega)
          clear ex_89
          refine lv_bipush (v := 32) hx hb dX8_walks_189 (by decide) ?_
          refine lv_iadd hx hb dX8_walks_191 ?_
          refine lv_topi (fun x_90 ex_90 => ?_)
          have e_90 : x_90.toInt = x_89.toInt + 32 := by rw [ex_90]; exact zi_add (rfl) (by decide) (by omega) (by omega)
          clear ex_90
          refine lv_iload hx hb dX8_walks_192 (lv_at hl 1 rfl) ?_
          refine lv_iadd hx hb dX8_walks_194 ?_
          refine lv_topi (fun x_91 ex_91 => ?_)
          have e_91 : x_91.toInt = x_90.toInt + t5_c102.toInt := by rw [ex_91]; exact zi_add (rfl) (rfl) (by omega) (by omega)
          clear ex_91
          refine va_iald hx hb hK hP 1 0 rfl rfl (zi_in (by omega) (by omega)) dX8_walks_195 ?_
          refine lv_topi (fun x_92 ex_92 => ?_)
          clear ex_92
          refine va_iast hx hb hK hP hD hS 1 0 rfl rfl (zi_in (by omega) (by omega)) dX8_walks_196 (fun H locs hP hD hS => ?_)
          have hP : va_P D kl [(h, .inr (7, [.ref sl, .int na, .ref zs, .ref ln, .ref ir, .ref tk, .int su, .int le, .ref tb, .int fu, .int ap, .int pp, .ref tr, .int tc, .ref fz, .int nm])), (sl, .inl (cI, 1653, .inl (upd g0_c102 (x_88 : Int32).toNatClampNeg x_92)))] H := hP
          have hD : va_D A [(h, .inr (7, [.ref sl, .int na, .ref zs, .ref ln, .ref ir, .ref tk, .int su, .int le, .ref tb, .int fu, .int ap, .int pp, .ref tr, .int tc, .ref fz, .int nm])), (sl, .inl (cI, 1653, .inl (upd g0_c102 (x_88 : Int32).toNatClampNeg x_92)))] := hD
          have ha_93 : SI (upd g0_c102 (x_88 : Int32).toNatClampNeg x_92) v0 := si_up ha_g0_c102 (by omega) (fun s0 a0 b0 e0 => by omega) (fun s0 a0 b0 e0 => by omega) (fun s0 k0 a0 b0 c0 d0 e0 => by omega) (by omega)
          have hf_94 : FRM (57 * k.toInt + 31) (57 * k.toInt + 57) sf (upd g0_c102 (x_88 : Int32).toNatClampNeg x_92) := FRM.up hf_c102 (by omega)
          obtain ⟨x_95, ex_95⟩ : ∃ y : Int32, y = t5_c102 + Int32.ofInt 1 := ⟨_, rfl⟩
          refine lv_iinc (v := x_95) (lv' := [(5, .int x_95), (6, .int 0), (4, .int r_5), (3, .int x_4), (0, .ref h), (1, .int k), (2, .int v)]) hx hb dX8_walks_197 hl (k := 1) rfl ex_95.symm (by decide) rfl (fun ls hl => ?_)
          have ex_95 : x_95 = t5_c102 + 1 := ex_95
          have e_95 : x_95.toInt = t5_c102.toInt + 1 := by rw [ex_95]; exact zi_add (rfl) (by decide) (by omega) (by omega)
          clear ex_95
          refine lv_goto (tgt := 102) hx hb dX8_walks_200 (by decide) ?_
          exact ih102 x_95 (upd g0_c102 (x_88 : Int32).toNatClampNeg x_92) _ _ _ (show 0 ≤ x_95.toInt ∧ x_95.toInt ≤ 8 from by omega) ha_93 hf_94 (by omega) (hP.sub [0, 1] rfl) (hD.sub [0, 1] (by decide) rfl) hS (lv_sub hl [0, 2, 3, 4, 5, 6] rfl)
  exact hL102 (((8 - (0 : Int32).toInt).toNat) + 1) 0 (upd (upd (upd (upd sf (x_8 : Int32).toNatClampNeg x_4) (x_13 : Int32).toNatClampNeg r_5) (x_18 : Int32).toNatClampNeg x_20) (x_25 : Int32).toNatClampNeg x_28) _ _ _ (show 0 ≤ 0 ∧ 0 ≤ 8 from by omega) ha_29 hf_30 (Nat.lt_succ_self _) (hP.sub [0, 1] rfl) (hD.sub [0, 1] (by decide) rfl) hS (lv_sub hl [0, 1, 2, 3, 4, 5] rfl)
set_option maxHeartbeats 4000000 in
set_option maxRecDepth 100000 in
theorem f_X8_day (l : Launch) (D : va_G) (cI cB cQ : ClassId) (sz : Nat) (h : Nat) (sl : Nat) (zs : Nat) (ln : Nat) (ir : Nat) (tk : Nat) (tb : Nat) (tr : Nat) (fz : Nat) (na : Int32) (su : Int32) (le : Int32) (fu : Int32) (ap : Int32) (pp : Int32) (tc : Int32) (nm : Int32) (k : Int32) (b : Int32) (sf : Nat → Int32) (v0 : Int) (hsi : SI sf v0) (h_k : 0 ≤ k.toInt ∧ k.toInt ≤ 28) : mv l yX8_day wsX8_day ({ frames := 4, cells := 0, slots := 0, locals := 99 }) D cI cB cQ [.ref h, .int k, .int b] sz [(h, .inr (7, [.ref sl, .int na, .ref zs, .ref ln, .ref ir, .ref tk, .int su, .int le, .ref tb, .int fu, .int ap, .int pp, .ref tr, .int tc, .ref fz, .int nm])), (sl, .inl (cI, 1653, .inl sf))] (fun (u : (Nat → Int32)) => (FRM (57 * k.toInt + 31) (57 * k.toInt + 57) sf u) ∧ (SI u v0)) (fun u => [(h, .inr (7, [.ref sl, .int na, .ref zs, .ref ln, .ref ir, .ref tk, .int su, .int le, .ref tb, .int fu, .int ap, .int pp, .ref tr, .int tc, .ref fz, .int nm])), (sl, .inl (cI, 1653, .inl u))]) 0 0 := by
  refine wm_v (cc := cX8_day) (maxL := 4) (ret := none) (by decide) rfl (Nat.le_of_ble_eq_true rfl) ?_
  intro p e s m below meth c A ls hx hb hr hml hown hts hlocks hin hP hK hD hN hA hl hS
  have hown : s.vm.findClass RX8 = some m.cls := hown
  have hl : lv_has ls 4 [(0, .ref h), (1, .int k), (2, .int b)] := hl
  change W p l e ({ frames := 4, cells := 0, slots := 0, locals := 99 }) s m ([.ref h, .int k, .int b] : List Value).toArray below meth c s.heap [] 0 0 (MQ below (va_Qv (fun (u : (Nat → Int32)) => (FRM (57 * k.toInt + 31) (57 * k.toInt + 57) sf u) ∧ (SI u v0)) (fun u t => wb D A ((fun u => [(h, .inr (7, [.ref sl, .int na, .ref zs, .ref ln, .ref ir, .ref tk, .int su, .int le, .ref tb, .int fu, .int ap, .int pp, .ref tr, .int tc, .ref fz, .int nm])), (sl, .inl (cI, 1653, .inl u))]) u) t) A) ([.ref h, .int k, .int b] : List Value).toArray s 0 0 A) (F0 m 0 ls [])
  refine lv_iconst (v := 0) hx hb dX8_day_0 (by decide) ?_
  refine lv_istore_n (lv' := [(3, .int 0), (0, .ref h), (1, .int k), (2, .int b)]) hx hb dX8_day_1 rfl hl (by decide) rfl (fun ls hl => ?_)
  have hL2 : ∀ (nf : Nat) (t3_c2 : Int32) (g0_c2 : Nat → Int32) (H : Heap) (locs : List Loc) (ls : Array Slot), (0 ≤ t3_c2.toInt ∧ t3_c2.toInt ≤ 8) → (SI g0_c2 v0) → (FRM (57 * k.toInt + 31) (57 * k.toInt + 57) sf g0_c2) → (8 - t3_c2.toInt).toNat < nf → va_P D kl [(h, .inr (7, [.ref sl, .int na, .ref zs, .ref ln, .ref ir, .ref tk, .int su, .int le, .ref tb, .int fu, .int ap, .int pp, .ref tr, .int tc, .ref fz, .int nm])), (sl, .inl (cI, 1653, .inl g0_c2))] H → va_D A [(h, .inr (7, [.ref sl, .int na, .ref zs, .ref ln, .ref ir, .ref tk, .int su, .int le, .ref tb, .int fu, .int ap, .int pp, .ref tr, .int tc, .ref fz, .int nm])), (sl, .inl (cI, 1653, .inl g0_c2))] → va_S A s.heap H locs → lv_has ls 4 [(3, .int t3_c2), (0, .ref h), (1, .int k), (2, .int b)] → W p l e ({ frames := 4, cells := 0, slots := 0, locals := 99 }) s m ([.ref h, .int k, .int b] : List Value).toArray below meth c H locs 0 0 (MQ below (va_Qv (fun (u : (Nat → Int32)) => (FRM (57 * k.toInt + 31) (57 * k.toInt + 57) sf u) ∧ (SI u v0)) (fun u t => wb D A ((fun u => [(h, .inr (7, [.ref sl, .int na, .ref zs, .ref ln, .ref ir, .ref tk, .int su, .int le, .ref tb, .int fu, .int ap, .int pp, .ref tr, .int tc, .ref fz, .int nm])), (sl, .inl (cI, 1653, .inl u))]) u) t) A) ([.ref h, .int k, .int b] : List Value).toArray s 0 0 A) (F0 m 2 ls []) := by
    intro nf
    induction nf with
    | zero =>
      intro t3_c2 g0_c2 H locs ls i_t3_c2 ha_g0_c2 hf_c2 hm
      exact absurd hm (Nat.not_lt_zero _)
    | succ nf ih2 =>
      intro t3_c2 g0_c2 H locs ls i_t3_c2 ha_g0_c2 hf_c2 hm2 hP hD hS hl
      refine lv_iload_n hx hb dX8_day_2 rfl (lv_at hl 0 rfl) ?_
      refine lv_bipush (v := 8) hx hb dX8_day_3 (by decide) ?_
      refine lv_icmp_ge (tgt := 53) hx hb dX8_day_5 (by decide) (fun c_1 => ?_) (fun c_1 => ?_)
      · have f_1 : 8 ≤ t3_c2.toInt := zi_le c_1
        refine lv_iconst (v := 0) hx hb dX8_day_53 (by decide) ?_
        refine lv_istore_n (lv' := [(3, .int 0), (0, .ref h), (1, .int k), (2, .int b)]) hx hb dX8_day_54 rfl hl (by decide) rfl (fun ls hl => ?_)
        have hL55 : ∀ (nf : Nat) (t3_c55 : Int32) (g0_c55 : Nat → Int32) (H : Heap) (locs : List Loc) (ls : Array Slot), (0 ≤ t3_c55.toInt ∧ t3_c55.toInt ≤ 3) → (SI g0_c55 v0) → (FRM (57 * k.toInt + 31) (57 * k.toInt + 57) sf g0_c55) → (3 - t3_c55.toInt).toNat < nf → va_P D kl [(h, .inr (7, [.ref sl, .int na, .ref zs, .ref ln, .ref ir, .ref tk, .int su, .int le, .ref tb, .int fu, .int ap, .int pp, .ref tr, .int tc, .ref fz, .int nm])), (sl, .inl (cI, 1653, .inl g0_c55))] H → va_D A [(h, .inr (7, [.ref sl, .int na, .ref zs, .ref ln, .ref ir, .ref tk, .int su, .int le, .ref tb, .int fu, .int ap, .int pp, .ref tr, .int tc, .ref fz, .int nm])), (sl, .inl (cI, 1653, .inl g0_c55))] → va_S A s.heap H locs → lv_has ls 4 [(3, .int t3_c55), (0, .ref h), (1, .int k), (2, .int b)] → W p l e ({ frames := 4, cells := 0, slots := 0, locals := 99 }) s m ([.ref h, .int k, .int b] : List Value).toArray below meth c H locs 0 0 (MQ below (va_Qv (fun (u : (Nat → Int32)) => (FRM (57 * k.toInt + 31) (57 * k.toInt + 57) sf u) ∧ (SI u v0)) (fun u t => wb D A ((fun u => [(h, .inr (7, [.ref sl, .int na, .ref zs, .ref ln, .ref ir, .ref tk, .int su, .int le, .ref tb, .int fu, .int ap, .int pp, .ref tr, .int tc, .ref fz, .int nm])), (sl, .inl (cI, 1653, .inl u))]) u) t) A) ([.ref h, .int k, .int b] : List Value).toArray s 0 0 A) (F0 m 55 ls []) := by
          intro nf
          induction nf with
          | zero =>
            intro t3_c55 g0_c55 H locs ls i_t3_c55 ha_g0_c55 hf_c55 hm
            exact absurd hm (Nat.not_lt_zero _)
          | succ nf ih55 =>
            intro t3_c55 g0_c55 H locs ls i_t3_c55 ha_g0_c55 hf_c55 hm55 hP hD hS hl
            refine lv_iload_n hx hb dX8_day_55 rfl (lv_at hl 0 rfl) ?_
            refine lv_aload_n hx hb dX8_day_56 rfl (lv_at hl 1 rfl) ?_
            refine va_get (D := D) (ci := 7) (v := .ref sl) (C := RX8) (T := TX8) (N := 16) hx hb hts (fun _ h => List.mem_cons_of_mem _ (List.mem_append_right _ h)) hown hK hP 0 rfl rfl 0 (by decide) (hts (.fieldLink RX8 7 "WinterWalkModel" "slot" "[I") (List.mem_of_getElem? (i := 1) rfl)) (fun _ h9 => h9) rfl dX8_day_57 ?_
            refine lv_iload_n hx hb dX8_day_60 rfl (lv_at hl 2 rfl) ?_
            refine lv_bipush (v := 57) hx hb dX8_day_61 (by decide) ?_
            refine lv_imul hx hb dX8_day_63 ?_
            refine lv_topi (fun x_2 ex_2 => ?_)
            have e_2 : x_2.toInt = k.toInt * 57 := by rw [ex_2]; exact zi_mul (rfl) (by decide) (by omega) (by omega)
            clear ex_2
            refine lv_iconst (v := 2) hx hb dX8_day_64 (by decide) ?_
            refine lv_iadd hx hb dX8_day_65 ?_
            refine lv_topi (fun x_3 ex_3 => ?_)
            have e_3 : x_3.toInt = x_2.toInt + 2 := by rw [ex_3]; exact zi_add (rfl) (by decide) (by omega) (by omega)
            clear ex_3
            refine va_iald hx hb hK hP 1 0 rfl rfl (zi_in (by omega) (by omega)) dX8_day_66 ?_
            refine lv_topi (fun x_4 ex_4 => ?_)
            have f_4 : 0 ≤ x_4.toInt ∧ x_4.toInt ≤ 3 := by rw [ex_4]; exact si_w ha_g0_c55 (s := k.toInt) (by omega) (by omega)
            clear ex_4
            refine lv_icmp_ge (tgt := 91) hx hb dX8_day_67 (by decide) (fun c_5 => ?_) (fun c_5 => ?_)
            · have f_5 : x_4.toInt ≤ t3_c55.toInt := zi_le c_5
              refine lv_aload_n hx hb dX8_day_91 rfl (lv_at hl 1 rfl) ?_
              refine va_get (D := D) (ci := 7) (v := .ref sl) (C := RX8) (T := TX8) (N := 16) hx hb hts (fun _ h => List.mem_cons_of_mem _ (List.mem_append_right _ h)) hown hK hP 0 rfl rfl 0 (by decide) (hts (.fieldLink RX8 7 "WinterWalkModel" "slot" "[I") (List.mem_of_getElem? (i := 1) rfl)) (fun _ h9 => h9) rfl dX8_day_92 ?_
              refine lv_iload_n hx hb dX8_day_95 rfl (lv_at hl 2 rfl) ?_
              refine lv_bipush (v := 57) hx hb dX8_day_96 (by decide) ?_
              refine lv_imul hx hb dX8_day_98 ?_
              refine lv_topi (fun x_6 ex_6 => ?_)
              have e_6 : x_6.toInt = k.toInt * 57 := by rw [ex_6]; exact zi_mul (rfl) (by decide) (by omega) (by omega)
              clear ex_6
              refine lv_bipush (v := 54) hx hb dX8_day_99 (by decide) ?_
              refine lv_iadd hx hb dX8_day_101 ?_
              refine lv_topi (fun x_7 ex_7 => ?_)
              have e_7 : x_7.toInt = x_6.toInt + 54 := by rw [ex_7]; exact zi_add (rfl) (by decide) (by omega) (by omega)
              clear ex_7
              refine lv_dup2_11 hx hb dX8_day_102 rfl rfl ?_
              refine va_iald hx hb hK hP 1 0 rfl rfl (zi_in (by omega) (by omega)) dX8_day_103 ?_
              refine lv_topi (fun x_8 ex_8 => ?_)
              clear ex_8
              refine lv_iconst (v := 1) hx hb dX8_day_104 (by decide) ?_
              refine lv_iadd hx hb dX8_day_105 ?_
              refine lv_topi (fun x_9 ex_9 => ?_)
              clear ex_9
              refine va_iast hx hb hK hP hD hS 1 0 rfl rfl (zi_in (by omega) (by omega)) dX8_day_106 (fun H locs hP hD hS => ?_)
              have hP : va_P D kl [(h, .inr (7, [.ref sl, .int na, .ref zs, .ref ln, .ref ir, .ref tk, .int su, .int le, .ref tb, .int fu, .int ap, .int pp, .ref tr, .int tc, .ref fz, .int nm])), (sl, .inl (cI, 1653, .inl (upd g0_c55 (x_7 : Int32).toNatClampNeg x_9)))] H := hP
              have hD : va_D A [(h, .inr (7, [.ref sl, .int na, .ref zs, .ref ln, .ref ir, .ref tk, .int su, .int le, .ref tb, .int fu, .int ap, .int pp, .ref tr, .int tc, .ref fz, .int nm])), (sl, .inl (cI, 1653, .inl (upd g0_c55 (x_7 : Int32).toNatClampNeg x_9)))] := hD
              have ha_10 : SI (upd g0_c55 (x_7 : Int32).toNatClampNeg x_9) v0 := si_up ha_g0_c55 (by omega) (fun s0 a0 b0 e0 => by omega) (fun s0 a0 b0 e0 => by omega) (fun s0 k0 a0 b0 c0 d0 e0 => by omega) (by omega)
              have hf_11 : FRM (57 * k.toInt + 31) (57 * k.toInt + 57) sf (upd g0_c55 (x_7 : Int32).toNatClampNeg x_9) := FRM.up hf_c55 (by omega)
              exact wr_v hx hb hr hlocks hS (upd g0_c55 (x_7 : Int32).toNatClampNeg x_9) (by exact ⟨show FRM (57 * k.toInt + 31) (57 * k.toInt + 57) sf (upd g0_c55 (x_7 : Int32).toNatClampNeg x_9) from hf_11, ha_10⟩) (hP.sub [0, 1] rfl) (hD.sub [0, 1] (by decide) rfl) dX8_day_107
            · have f_5 : ¬ x_4.toInt ≤ t3_c55.toInt := zi_nle c_5
              refine lv_iload_n hx hb dX8_day_70 rfl (lv_at hl 3 rfl) ?_
              refine lv_if_lt (tgt := 79) hx hb dX8_day_71 (by decide) (fun c_12 => ?_) (fun c_12 => ?_)
              · have f_12 : b.toInt < 0 := zi_lt c_12
                refine lv_aload_n hx hb dX8_day_79 rfl (lv_at hl 1 rfl) ?_
                refine lv_iload_n hx hb dX8_day_80 rfl (lv_at hl 2 rfl) ?_
                refine lv_iload_n hx hb dX8_day_81 rfl (lv_at hl 0 rfl) ?_
                have k_13 := (f_X8_walks l D cI cB cQ H.size h sl zs ln ir tk tb tr fz na su le fu ap pp tc nm k t3_c55 g0_c55 v0 ha_g0_c55 (by omega) (by omega))
                refine wc_v (WC := [(h, .inr (7, [.ref sl, .int na, .ref zs, .ref ln, .ref ir, .ref tk, .int su, .int le, .ref tb, .int fu, .int ap, .int pp, .ref tr, .int tc, .ref fz, .int nm])), (sl, .inl (cI, 1653, .inl g0_c55))]) (WR := []) (va_runV (As := [.int k, .int t3_c55]) (rest := []) ⟨hx, hb, hml, hown, hts⟩ k_13 (cwV 2 hts gX8_day_X8_walks rfl rfl rfl (by decide +kernel) ⟨Nat.le_of_ble_eq_true rfl, Nat.le_of_ble_eq_true rfl⟩) (wp_V hP hK hD hN [0, 1] (by decide) rfl (ci := 7) rfl rfl) rfl rfl hl.1 rfl (lv_room (Nat.le_of_ble_eq_true rfl)) dX8_day_82 ⟨Nat.le_of_ble_eq_true rfl, Nat.le_of_ble_eq_true rfl⟩) hP hD hS hA [0, 1] [] rfl rfl (by decide) (by decide) (fun u_13 H locs hw_13 hP hD hS => ?_)
                clear k_13
                have hP : va_P D kl [(h, .inr (7, [.ref sl, .int na, .ref zs, .ref ln, .ref ir, .ref tk, .int su, .int le, .ref tb, .int fu, .int ap, .int pp, .ref tr, .int tc, .ref fz, .int nm])), (sl, .inl (cI, 1653, .inl u_13))] H := hP
                have hD : va_D A [(h, .inr (7, [.ref sl, .int na, .ref zs, .ref ln, .ref ir, .ref tk, .int su, .int le, .ref tb, .int fu, .int ap, .int pp, .ref tr, .int tc, .ref fz, .int nm])), (sl, .inl (cI, 1653, .inl u_13))] := hD
                obtain ⟨c13_0, c13_1⟩ := hw_13
                have c13_0 : FRM (57 * k.toInt + 31) (57 * k.toInt + 57) g0_c55 u_13 := c13_0
                have c13_1 : SI u_13 v0 := c13_1
                have hf_13 : FRM (57 * k.toInt + 31) (57 * k.toInt + 57) sf u_13 := FRM.trans hf_c55 (FRM.sub c13_0 (by omega) (by omega))
                obtain ⟨x_14, ex_14⟩ : ∃ y : Int32, y = t3_c55 + Int32.ofInt 1 := ⟨_, rfl⟩
                refine lv_iinc (v := x_14) (lv' := [(3, .int x_14), (0, .ref h), (1, .int k), (2, .int b)]) hx hb dX8_day_85 hl (k := 0) rfl ex_14.symm (by decide) rfl (fun ls hl => ?_)
                have ex_14 : x_14 = t3_c55 + 1 := ex_14
                have e_14 : x_14.toInt = t3_c55.toInt + 1 := by rw [ex_14]; exact zi_add (rfl) (by decide) (by omega) (by omega)
                clear ex_14
                refine lv_goto (tgt := 55) hx hb dX8_day_88 (by decide) ?_
                exact ih55 x_14 u_13 _ _ _ (show 0 ≤ x_14.toInt ∧ x_14.toInt ≤ 3 from by omega) c13_1 hf_13 (by omega) (hP.sub [0, 1] rfl) (hD.sub [0, 1] (by decide) rfl) hS (lv_sub hl [0, 1, 2, 3] rfl)
              · have f_12 : ¬ b.toInt < 0 := zi_nlt c_12
                refine lv_iload_n hx hb dX8_day_74 rfl (lv_at hl 0 rfl) ?_
                refine lv_iload_n hx hb dX8_day_75 rfl (lv_at hl 3 rfl) ?_
                refine lv_icmp_ne (tgt := 85) hx hb dX8_day_76 (by decide) (fun c_15 => ?_) (fun c_15 => ?_)
                · have f_15 : ¬ t3_c55.toInt = b.toInt := zi_ne c_15
                  obtain ⟨x_16, ex_16⟩ : ∃ y : Int32, y = t3_c55 + Int32.ofInt 1 := ⟨_, rfl⟩
                  refine lv_iinc (v := x_16) (lv' := [(3, .int x_16), (0, .ref h), (1, .int k), (2, .int b)]) hx hb dX8_day_85 hl (k := 0) rfl ex_16.symm (by decide) rfl (fun ls hl => ?_)
                  have ex_16 : x_16 = t3_c55 + 1 := ex_16
                  have e_16 : x_16.toInt = t3_c55.toInt + 1 := by rw [ex_16]; exact zi_add (rfl) (by decide) (by omega) (by omega)
                  clear ex_16
                  refine lv_goto (tgt := 55) hx hb dX8_day_88 (by decide) ?_
                  exact ih55 x_16 g0_c55 _ _ _ (show 0 ≤ x_16.toInt ∧ x_16.toInt ≤ 3 from by omega) ha_g0_c55 hf_c55 (by omega) (hP.sub [0, 1] rfl) (hD.sub [0, 1] (by decide) rfl) hS (lv_sub hl [0, 1, 2, 3] rfl)
                · have f_15 : t3_c55.toInt = b.toInt := zi_eq c_15
                  refine lv_aload_n hx hb dX8_day_79 rfl (lv_at hl 1 rfl) ?_
                  refine lv_iload_n hx hb dX8_day_80 rfl (lv_at hl 2 rfl) ?_
                  refine lv_iload_n hx hb dX8_day_81 rfl (lv_at hl 0 rfl) ?_
                  have k_17 := (f_X8_walks l D cI cB cQ H.size h sl zs ln ir tk tb tr fz na su le fu ap pp tc nm k t3_c55 g0_c55 v0 ha_g0_c55 (by omega) (by omega))
                  refine wc_v (WC := [(h, .inr (7, [.ref sl, .int na, .ref zs, .ref ln, .ref ir, .ref tk, .int su, .int le, .ref tb, .int fu, .int ap, .int pp, .ref tr, .int tc, .ref fz, .int nm])), (sl, .inl (cI, 1653, .inl g0_c55))]) (WR := []) (va_runV (As := [.int k, .int t3_c55]) (rest := []) ⟨hx, hb, hml, hown, hts⟩ k_17 (cwV 2 hts gX8_day_X8_walks rfl rfl rfl (by decide +kernel) ⟨Nat.le_of_ble_eq_true rfl, Nat.le_of_ble_eq_true rfl⟩) (wp_V hP hK hD hN [0, 1] (by decide) rfl (ci := 7) rfl rfl) rfl rfl hl.1 rfl (lv_room (Nat.le_of_ble_eq_true rfl)) dX8_day_82 ⟨Nat.le_of_ble_eq_true rfl, Nat.le_of_ble_eq_true rfl⟩) hP hD hS hA [0, 1] [] rfl rfl (by decide) (by decide) (fun u_17 H locs hw_17 hP hD hS => ?_)
                  clear k_17
                  have hP : va_P D kl [(h, .inr (7, [.ref sl, .int na, .ref zs, .ref ln, .ref ir, .ref tk, .int su, .int le, .ref tb, .int fu, .int ap, .int pp, .ref tr, .int tc, .ref fz, .int nm])), (sl, .inl (cI, 1653, .inl u_17))] H := hP
                  have hD : va_D A [(h, .inr (7, [.ref sl, .int na, .ref zs, .ref ln, .ref ir, .ref tk, .int su, .int le, .ref tb, .int fu, .int ap, .int pp, .ref tr, .int tc, .ref fz, .int nm])), (sl, .inl (cI, 1653, .inl u_17))] := hD
                  obtain ⟨c17_0, c17_1⟩ := hw_17
                  have c17_0 : FRM (57 * k.toInt + 31) (57 * k.toInt + 57) g0_c55 u_17 := c17_0
                  have c17_1 : SI u_17 v0 := c17_1
                  have hf_17 : FRM (57 * k.toInt + 31) (57 * k.toInt + 57) sf u_17 := FRM.trans hf_c55 (FRM.sub c17_0 (by omega) (by omega))
                  obtain ⟨x_18, ex_18⟩ : ∃ y : Int32, y = t3_c55 + Int32.ofInt 1 := ⟨_, rfl⟩
                  refine lv_iinc (v := x_18) (lv' := [(3, .int x_18), (0, .ref h), (1, .int k), (2, .int b)]) hx hb dX8_day_85 hl (k := 0) rfl ex_18.symm (by decide) rfl (fun ls hl => ?_)
                  have ex_18 : x_18 = t3_c55 + 1 := ex_18
                  have e_18 : x_18.toInt = t3_c55.toInt + 1 := by rw [ex_18]; exact zi_add (rfl) (by decide) (by omega) (by omega)
                  clear ex_18
                  refine lv_goto (tgt := 55) hx hb dX8_day_88 (by decide) ?_
                  exact ih55 x_18 u_17 _ _ _ (show 0 ≤ x_18.toInt ∧ x_18.toInt ≤ 3 from by omega) c17_1 hf_17 (by omega) (hP.sub [0, 1] rfl) (hD.sub [0, 1] (by decide) rfl) hS (lv_sub hl [0, 1, 2, 3] rfl)
        exact hL55 (((3 - (0 : Int32).toInt).toNat) + 1) 0 g0_c2 _ _ _ (show 0 ≤ 0 ∧ 0 ≤ 3 from by omega) ha_g0_c2 hf_c2 (Nat.lt_succ_self _) (hP.sub [0, 1] rfl) (hD.sub [0, 1] (by decide) rfl) hS (lv_sub hl [0, 1, 2, 3] rfl)
      · have f_1 : ¬ 8 ≤ t3_c2.toInt := zi_nle c_1
        refine lv_aload_n hx hb dX8_day_8 rfl (lv_at hl 1 rfl) ?_
        refine va_get (D := D) (ci := 7) (v := .ref sl) (C := RX8) (T := TX8) (N := 16) hx hb hts (fun _ h => List.mem_cons_of_mem _ (List.mem_append_right _ h)) hown hK hP 0 rfl rfl 0 (by decide) (hts (.fieldLink RX8 7 "WinterWalkModel" "slot" "[I") (List.mem_of_getElem? (i := 1) rfl)) (fun _ h9 => h9) rfl dX8_day_9 ?_
        refine lv_iload_n hx hb dX8_day_12 rfl (lv_at hl 2 rfl) ?_
        refine lv_bipush (v := 57) hx hb dX8_day_13 (by decide) ?_
        refine lv_imul hx hb dX8_day_15 ?_
        refine lv_topi (fun x_19 ex_19 => ?_)
        have e_19 : x_19.toInt = k.toInt * 57 := by rw [ex_19]; exact zi_mul (rfl) (by decide) (by omega) (by omega)
        clear ex_19
        refine lv_bipush (v := 32) hx hb dX8_day_16 (by decide) ?_
        refine lv_iadd hx hb dX8_day_18 ?_
        refine lv_topi (fun x_20 ex_20 => ?_)
        have e_20 : x_20.toInt = x_19.toInt + 32 := by rw [ex_20]; exact zi_add (rfl) (by decide) (by omega) (by omega)
        clear ex_20
        refine lv_iload_n hx hb dX8_day_19 rfl (lv_at hl 0 rfl) ?_
        refine lv_iadd hx hb dX8_day_20 ?_
        refine lv_topi (fun x_21 ex_21 => ?_)
        have e_21 : x_21.toInt = x_20.toInt + t3_c2.toInt := by rw [ex_21]; exact zi_add (rfl) (rfl) (by omega) (by omega)
        clear ex_21
        refine lv_dup2_11 hx hb dX8_day_21 rfl rfl ?_
        refine va_iald hx hb hK hP 1 0 rfl rfl (zi_in (by omega) (by omega)) dX8_day_22 ?_
        refine lv_topi (fun x_22 ex_22 => ?_)
        clear ex_22
        refine lv_aload_n hx hb dX8_day_23 rfl (lv_at hl 1 rfl) ?_
        refine va_get (D := D) (ci := 7) (v := .ref sl) (C := RX8) (T := TX8) (N := 16) hx hb hts (fun _ h => List.mem_cons_of_mem _ (List.mem_append_right _ h)) hown hK hP 0 rfl rfl 0 (by decide) (hts (.fieldLink RX8 7 "WinterWalkModel" "slot" "[I") (List.mem_of_getElem? (i := 1) rfl)) (fun _ h9 => h9) rfl dX8_day_24 ?_
        refine lv_iload_n hx hb dX8_day_27 rfl (lv_at hl 2 rfl) ?_
        refine lv_bipush (v := 57) hx hb dX8_day_28 (by decide) ?_
        refine lv_imul hx hb dX8_day_30 ?_
        refine lv_topi (fun x_23 ex_23 => ?_)
        have e_23 : x_23.toInt = k.toInt * 57 := by rw [ex_23]; exact zi_mul (rfl) (by decide) (by omega) (by omega)
        clear ex_23
        refine lv_bipush (v := 32) hx hb dX8_day_31 (by decide) ?_
        refine lv_iadd hx hb dX8_day_33 ?_
        refine lv_topi (fun x_24 ex_24 => ?_)
        have e_24 : x_24.toInt = x_23.toInt + 32 := by rw [ex_24]; exact zi_add (rfl) (by decide) (by omega) (by omega)
        clear ex_24
        refine lv_iload_n hx hb dX8_day_34 rfl (lv_at hl 0 rfl) ?_
        refine lv_iadd hx hb dX8_day_35 ?_
        refine lv_topi (fun x_25 ex_25 => ?_)
        have e_25 : x_25.toInt = x_24.toInt + t3_c2.toInt := by rw [ex_25]; exact zi_add (rfl) (rfl) (by omega) (by omega)
        clear ex_25
        refine va_iald hx hb hK hP 1 0 rfl rfl (zi_in (by omega) (by omega)) dX8_day_36 ?_
        refine lv_topi (fun x_26 ex_26 => ?_)
        clear ex_26
        refine lv_if_le (tgt := 44) hx hb dX8_day_37 (by decide) (fun c_27 => ?_) (fun c_27 => ?_)
        · have f_27 : x_26.toInt ≤ 0 := zi_le c_27
          refine lv_iconst (v := 0) hx hb dX8_day_44 (by decide) ?_
          refine lv_isub hx hb dX8_day_45 ?_
          refine lv_topi (fun x_28 ex_28 => ?_)
          clear ex_28
          refine va_iast hx hb hK hP hD hS 1 0 rfl rfl (zi_in (by omega) (by omega)) dX8_day_46 (fun H locs hP hD hS => ?_)
          have hP : va_P D kl [(h, .inr (7, [.ref sl, .int na, .ref zs, .ref ln, .ref ir, .ref tk, .int su, .int le, .ref tb, .int fu, .int ap, .int pp, .ref tr, .int tc, .ref fz, .int nm])), (sl, .inl (cI, 1653, .inl (upd g0_c2 (x_21 : Int32).toNatClampNeg x_28)))] H := hP
          have hD : va_D A [(h, .inr (7, [.ref sl, .int na, .ref zs, .ref ln, .ref ir, .ref tk, .int su, .int le, .ref tb, .int fu, .int ap, .int pp, .ref tr, .int tc, .ref fz, .int nm])), (sl, .inl (cI, 1653, .inl (upd g0_c2 (x_21 : Int32).toNatClampNeg x_28)))] := hD
          have ha_29 : SI (upd g0_c2 (x_21 : Int32).toNatClampNeg x_28) v0 := si_up ha_g0_c2 (by omega) (fun s0 a0 b0 e0 => by omega) (fun s0 a0 b0 e0 => by omega) (fun s0 k0 a0 b0 c0 d0 e0 => by omega) (by omega)
          have hf_30 : FRM (57 * k.toInt + 31) (57 * k.toInt + 57) sf (upd g0_c2 (x_21 : Int32).toNatClampNeg x_28) := FRM.up hf_c2 (by omega)
          obtain ⟨x_31, ex_31⟩ : ∃ y : Int32, y = t3_c2 + Int32.ofInt 1 := ⟨_, rfl⟩
          refine lv_iinc (v := x_31) (lv' := [(3, .int x_31), (0, .ref h), (1, .int k), (2, .int b)]) hx hb dX8_day_47 hl (k := 0) rfl ex_31.symm (by decide) rfl (fun ls hl => ?_)
          have ex_31 : x_31 = t3_c2 + 1 := ex_31
          have e_31 : x_31.toInt = t3_c2.toInt + 1 := by rw [ex_31]; exact zi_add (rfl) (by decide) (by omega) (by omega)
          clear ex_31
          refine lv_goto (tgt := 2) hx hb dX8_day_50 (by decide) ?_
          exact ih2 x_31 (upd g0_c2 (x_21 : Int32).toNatClampNeg x_28) _ _ _ (show 0 ≤ x_31.toInt ∧ x_31.toInt ≤ 8 from by omega) ha_29 hf_30 (by omega) (hP.sub [0, 1] rfl) (hD.sub [0, 1] (by decide) rfl) hS (lv_sub hl [0, 1, 2, 3] rfl)
        · have f_27 : ¬ x_26.toInt ≤ 0 := zi_nle c_27
          refine lv_iconst (v := 1) hx hb dX8_day_40 (by decide) ?_
          refine lv_goto (tgt := 45) hx hb dX8_day_41 (by decide) ?_
          refine lv_isub hx hb dX8_day_45 ?_
          refine lv_topi (fun x_32 ex_32 => ?_)
          clear ex_32
          refine va_iast hx hb hK hP hD hS 1 0 rfl rfl (zi_in (by omega) (by omega)) dX8_day_46 (fun H locs hP hD hS => ?_)
          have hP : va_P D kl [(h, .inr (7, [.ref sl, .int na, .ref zs, .ref ln, .ref ir, .ref tk, .int su, .int le, .ref tb, .int fu, .int ap, .int pp, .ref tr, .int tc, .ref fz, .int nm])), (sl, .inl (cI, 1653, .inl (upd g0_c2 (x_21 : Int32).toNatClampNeg x_32)))] H := hP
          have hD : va_D A [(h, .inr (7, [.ref sl, .int na, .ref zs, .ref ln, .ref ir, .ref tk, .int su, .int le, .ref tb, .int fu, .int ap, .int pp, .ref tr, .int tc, .ref fz, .int nm])), (sl, .inl (cI, 1653, .inl (upd g0_c2 (x_21 : Int32).toNatClampNeg x_32)))] := hD
          have ha_33 : SI (upd g0_c2 (x_21 : Int32).toNatClampNeg x_32) v0 := si_up ha_g0_c2 (by omega) (fun s0 a0 b0 e0 => by omega) (fun s0 a0 b0 e0 => by omega) (fun s0 k0 a0 b0 c0 d0 e0 => by omega) (by omega)
          have hf_34 : FRM (57 * k.toInt + 31) (57 * k.toInt + 57) sf (upd g0_c2 (x_21 : Int32).toNatClampNeg x_32) := FRM.up hf_c2 (by omega)
          obtain ⟨x_35, ex_35⟩ : ∃ y : Int32, y = t3_c2 + Int32.ofInt 1 := ⟨_, rfl⟩
          refine lv_iinc (v := x_35) (lv' := [(3, .int x_35), (0, .ref h), (1, .int k), (2, .int b)]) hx hb dX8_day_47 hl (k := 0) rfl ex_35.symm (by decide) rfl (fun ls hl => ?_)
          have ex_35 : x_35 = t3_c2 + 1 := ex_35
          have e_35 : x_35.toInt = t3_c2.toInt + 1 := by rw [ex_35]; exact zi_add (rfl) (by decide) (by omega) (by omega)
          clear ex_35
          refine lv_goto (tgt := 2) hx hb dX8_day_50 (by decide) ?_
          exact ih2 x_35 (upd g0_c2 (x_21 : Int32).toNatClampNeg x_32) _ _ _ (show 0 ≤ x_35.toInt ∧ x_35.toInt ≤ 8 from by omega) ha_33 hf_34 (by omega) (hP.sub [0, 1] rfl) (hD.sub [0, 1] (by decide) rfl) hS (lv_sub hl [0, 1, 2, 3] rfl)
  exact hL2 (((8 - (0 : Int32).toInt).toNat) + 1) 0 sf _ _ _ (show 0 ≤ 0 ∧ 0 ≤ 8 from by omega) hsi FRM.refl (Nat.lt_succ_self _) (hP.sub [0, 1] rfl) (hD.sub [0, 1] (by decide) rfl) hS (lv_sub hl [0, 1, 2, 3] rfl)
set_option maxHeartbeats 4000000 in
set_option maxRecDepth 100000 in
theorem f_X8_again (l : Launch) (D : va_G) (cI cB cQ : ClassId) (sz : Nat) (h : Nat) (sl : Nat) (zs : Nat) (ln : Nat) (ir : Nat) (tk : Nat) (tb : Nat) (tr : Nat) (fz : Nat) (na : Int32) (su : Int32) (le : Int32) (fu : Int32) (ap : Int32) (pp : Int32) (tc : Int32) (nm : Int32) (n : Int32) (sf : Nat → Int32) (v0 : Int) (hsi : SI sf v0) (h_n : 0 ≤ n.toInt ∧ n.toInt ≤ 100) : mv l yX8_again wsX8_again ({ frames := 5, cells := 0, slots := 0, locals := 122 }) D cI cB cQ [.ref h, .int n] sz [(h, .inr (7, [.ref sl, .int na, .ref zs, .ref ln, .ref ir, .ref tk, .int su, .int le, .ref tb, .int fu, .int ap, .int pp, .ref tr, .int tc, .ref fz, .int nm])), (sl, .inl (cI, 1653, .inl sf))] (fun (u : (Nat → Int32)) => (FRM (1539) (1596) sf u) ∧ (SI u v0)) (fun u => [(h, .inr (7, [.ref sl, .int na, .ref zs, .ref ln, .ref ir, .ref tk, .int su, .int le, .ref tb, .int fu, .int ap, .int pp, .ref tr, .int tc, .ref fz, .int nm])), (sl, .inl (cI, 1653, .inl u))]) 0 0 := by
  refine wm_v (cc := cX8_again) (maxL := 3) (ret := none) (by decide) rfl (Nat.le_of_ble_eq_true rfl) ?_
  intro p e s m below meth c A ls hx hb hr hml hown hts hlocks hin hP hK hD hN hA hl hS
  have hown : s.vm.findClass RX8 = some m.cls := hown
  have hl : lv_has ls 3 [(0, .ref h), (1, .int n)] := hl
  change W p l e ({ frames := 5, cells := 0, slots := 0, locals := 122 }) s m ([.ref h, .int n] : List Value).toArray below meth c s.heap [] 0 0 (MQ below (va_Qv (fun (u : (Nat → Int32)) => (FRM (1539) (1596) sf u) ∧ (SI u v0)) (fun u t => wb D A ((fun u => [(h, .inr (7, [.ref sl, .int na, .ref zs, .ref ln, .ref ir, .ref tk, .int su, .int le, .ref tb, .int fu, .int ap, .int pp, .ref tr, .int tc, .ref fz, .int nm])), (sl, .inl (cI, 1653, .inl u))]) u) t) A) ([.ref h, .int n] : List Value).toArray s 0 0 A) (F0 m 0 ls [])
  refine lv_aload_n hx hb dX8_again_0 rfl (lv_at hl 0 rfl) ?_
  refine lv_iconst (v := 0) hx hb dX8_again_1 (by decide) ?_
  refine lv_bipush (v := 27) hx hb dX8_again_2 (by decide) ?_
  have k_1 := (f_X8_copies l D cI cB cQ s.heap.size h sl zs ln ir tk tb tr fz na su le fu ap pp tc nm 0 27 sf v0 hsi ⟨by decide, by decide⟩ ⟨by decide, by decide⟩ (by have hk0 : (0 : Int32).toInt = 0 := (by decide); have hk1 : (27 : Int32).toInt = 27 := (by decide); omega))
  refine wc_v (WC := [(h, .inr (7, [.ref sl, .int na, .ref zs, .ref ln, .ref ir, .ref tk, .int su, .int le, .ref tb, .int fu, .int ap, .int pp, .ref tr, .int tc, .ref fz, .int nm])), (sl, .inl (cI, 1653, .inl sf))]) (WR := []) (va_runV (As := [.int 0, .int 27]) (rest := []) ⟨hx, hb, hml, hown, hts⟩ k_1 (cwV 2 hts gX8_again_X8_copies rfl rfl rfl (by decide +kernel) ⟨Nat.le_of_ble_eq_true rfl, Nat.le_of_ble_eq_true rfl⟩) (wp_V hP hK hD hN [0, 1] (by decide) rfl (ci := 7) rfl rfl) rfl rfl hl.1 rfl (lv_room (Nat.le_of_ble_eq_true rfl)) dX8_again_4 ⟨Nat.le_of_ble_eq_true rfl, Nat.le_of_ble_eq_true rfl⟩) hP hD hS hA [0, 1] [] rfl rfl (by decide) (by decide) (fun u_1 H locs hw_1 hP hD hS => ?_)
  clear k_1
  have hP : va_P D kl [(h, .inr (7, [.ref sl, .int na, .ref zs, .ref ln, .ref ir, .ref tk, .int su, .int le, .ref tb, .int fu, .int ap, .int pp, .ref tr, .int tc, .ref fz, .int nm])), (sl, .inl (cI, 1653, .inl u_1))] H := hP
  have hD : va_D A [(h, .inr (7, [.ref sl, .int na, .ref zs, .ref ln, .ref ir, .ref tk, .int su, .int le, .ref tb, .int fu, .int ap, .int pp, .ref tr, .int tc, .ref fz, .int nm])), (sl, .inl (cI, 1653, .inl u_1))] := hD
  obtain ⟨c1_0, c1_1, c1_2⟩ := hw_1
  have c1_0 : ∀ q : Nat, q < 57 → u_1 (57 * (27 : Int).toNat + q) = sf (57 * (0 : Int).toNat + q) := c1_0
  have c1_1 : FRM ((57 * (27 : Int))) ((57 * (27 : Int) + 57)) sf u_1 := c1_1
  have c1_2 : SI u_1 v0 := c1_2
  have hf_1 : FRM (1539) (1596) sf u_1 := FRM.trans FRM.refl (FRM.sub c1_1 (by omega) (by omega))
  refine lv_iconst (v := 0) hx hb dX8_again_7 (by decide) ?_
  refine lv_istore_n (lv' := [(2, .int 0), (0, .ref h), (1, .int n)]) hx hb dX8_again_8 rfl hl (by decide) rfl (fun ls hl => ?_)
  have hL9 : ∀ (nf : Nat) (t2_c9 : Int32) (g0_c9 : Nat → Int32) (H : Heap) (locs : List Loc) (ls : Array Slot), (0 ≤ t2_c9.toInt ∧ t2_c9.toInt ≤ 100) → (SI g0_c9 v0) → (FRM (1539) (1596) sf g0_c9) → (n.toInt - t2_c9.toInt).toNat < nf → va_P D kl [(h, .inr (7, [.ref sl, .int na, .ref zs, .ref ln, .ref ir, .ref tk, .int su, .int le, .ref tb, .int fu, .int ap, .int pp, .ref tr, .int tc, .ref fz, .int nm])), (sl, .inl (cI, 1653, .inl g0_c9))] H → va_D A [(h, .inr (7, [.ref sl, .int na, .ref zs, .ref ln, .ref ir, .ref tk, .int su, .int le, .ref tb, .int fu, .int ap, .int pp, .ref tr, .int tc, .ref fz, .int nm])), (sl, .inl (cI, 1653, .inl g0_c9))] → va_S A s.heap H locs → lv_has ls 3 [(2, .int t2_c9), (0, .ref h), (1, .int n)] → W p l e ({ frames := 5, cells := 0, slots := 0, locals := 122 }) s m ([.ref h, .int n] : List Value).toArray below meth c H locs 0 0 (MQ below (va_Qv (fun (u : (Nat → Int32)) => (FRM (1539) (1596) sf u) ∧ (SI u v0)) (fun u t => wb D A ((fun u => [(h, .inr (7, [.ref sl, .int na, .ref zs, .ref ln, .ref ir, .ref tk, .int su, .int le, .ref tb, .int fu, .int ap, .int pp, .ref tr, .int tc, .ref fz, .int nm])), (sl, .inl (cI, 1653, .inl u))]) u) t) A) ([.ref h, .int n] : List Value).toArray s 0 0 A) (F0 m 9 ls []) := by
    intro nf
    induction nf with
    | zero =>
      intro t2_c9 g0_c9 H locs ls i_t2_c9 ha_g0_c9 hf_c9 hm
      exact absurd hm (Nat.not_lt_zero _)
    | succ nf ih9 =>
      intro t2_c9 g0_c9 H locs ls i_t2_c9 ha_g0_c9 hf_c9 hm9 hP hD hS hl
      refine lv_iload_n hx hb dX8_again_9 rfl (lv_at hl 0 rfl) ?_
      refine lv_iload_n hx hb dX8_again_10 rfl (lv_at hl 2 rfl) ?_
      refine lv_icmp_ge (tgt := 27) hx hb dX8_again_11 (by decide) (fun c_2 => ?_) (fun c_2 => ?_)
      · have f_2 : n.toInt ≤ t2_c9.toInt := zi_le c_2
        exact wr_v hx hb hr hlocks hS g0_c9 (by exact ⟨show FRM (1539) (1596) sf g0_c9 from hf_c9, ha_g0_c9⟩) (hP.sub [0, 1] rfl) (hD.sub [0, 1] (by decide) rfl) dX8_again_27
      · have f_2 : ¬ n.toInt ≤ t2_c9.toInt := zi_nle c_2
        refine lv_aload_n hx hb dX8_again_14 rfl (lv_at hl 1 rfl) ?_
        refine lv_bipush (v := 27) hx hb dX8_again_15 (by decide) ?_
        refine lv_iconst (v := (-1)) hx hb dX8_again_17 (by decide) ?_
        have k_3 := (f_X8_day l D cI cB cQ H.size h sl zs ln ir tk tb tr fz na su le fu ap pp tc nm 27 (-1) g0_c9 v0 ha_g0_c9 ⟨by decide, by decide⟩)
        refine wc_v (WC := [(h, .inr (7, [.ref sl, .int na, .ref zs, .ref ln, .ref ir, .ref tk, .int su, .int le, .ref tb, .int fu, .int ap, .int pp, .ref tr, .int tc, .ref fz, .int nm])), (sl, .inl (cI, 1653, .inl g0_c9))]) (WR := []) (va_runV (As := [.int 27, .int (-1)]) (rest := []) ⟨hx, hb, hml, hown, hts⟩ k_3 (cwV 2 hts gX8_again_X8_day rfl rfl rfl (by decide +kernel) ⟨Nat.le_of_ble_eq_true rfl, Nat.le_of_ble_eq_true rfl⟩) (wp_V hP hK hD hN [0, 1] (by decide) rfl (ci := 7) rfl rfl) rfl rfl hl.1 rfl (lv_room (Nat.le_of_ble_eq_true rfl)) dX8_again_18 ⟨Nat.le_of_ble_eq_true rfl, Nat.le_of_ble_eq_true rfl⟩) hP hD hS hA [0, 1] [] rfl rfl (by decide) (by decide) (fun u_3 H locs hw_3 hP hD hS => ?_)
        clear k_3
        have hP : va_P D kl [(h, .inr (7, [.ref sl, .int na, .ref zs, .ref ln, .ref ir, .ref tk, .int su, .int le, .ref tb, .int fu, .int ap, .int pp, .ref tr, .int tc, .ref fz, .int nm])), (sl, .inl (cI, 1653, .inl u_3))] H := hP
        have hD : va_D A [(h, .inr (7, [.ref sl, .int na, .ref zs, .ref ln, .ref ir, .ref tk, .int su, .int le, .ref tb, .int fu, .int ap, .int pp, .ref tr, .int tc, .ref fz, .int nm])), (sl, .inl (cI, 1653, .inl u_3))] := hD
        obtain ⟨c3_0, c3_1⟩ := hw_3
        have c3_0 : FRM (57 * (27 : Int) + 31) (57 * (27 : Int) + 57) g0_c9 u_3 := c3_0
        have c3_1 : SI u_3 v0 := c3_1
        have hf_3 : FRM (1539) (1596) sf u_3 := FRM.trans hf_c9 (FRM.sub c3_0 (by omega) (by omega))
        obtain ⟨x_4, ex_4⟩ : ∃ y : Int32, y = t2_c9 + Int32.ofInt 1 := ⟨_, rfl⟩
        refine lv_iinc (v := x_4) (lv' := [(2, .int x_4), (0, .ref h), (1, .int n)]) hx hb dX8_again_21 hl (k := 0) rfl ex_4.symm (by decide) rfl (fun ls hl => ?_)
        have ex_4 : x_4 = t2_c9 + 1 := ex_4
        have e_4 : x_4.toInt = t2_c9.toInt + 1 := by rw [ex_4]; exact zi_add (rfl) (by decide) (by omega) (by omega)
        clear ex_4
        refine lv_goto (tgt := 9) hx hb dX8_again_24 (by decide) ?_
        exact ih9 x_4 u_3 _ _ _ (show 0 ≤ x_4.toInt ∧ x_4.toInt ≤ 100 from by omega) c3_1 hf_3 (by omega) (hP.sub [0, 1] rfl) (hD.sub [0, 1] (by decide) rfl) hS (lv_sub hl [0, 1, 2] rfl)
  exact hL9 (((n.toInt - (0 : Int32).toInt).toNat) + 1) 0 u_1 _ _ _ (show 0 ≤ 0 ∧ 0 ≤ 100 from by omega) c1_2 hf_1 (Nat.lt_succ_self _) (hP.sub [0, 1] rfl) (hD.sub [0, 1] (by decide) rfl) hS (lv_sub hl [0, 1, 2] rfl)
set_option maxHeartbeats 4000000 in
set_option maxRecDepth 100000 in
theorem f_X8_ahead (l : Launch) (D : va_G) (cI cB cQ : ClassId) (sz : Nat) (h : Nat) (sl : Nat) (zs : Nat) (ln : Nat) (ir : Nat) (tk : Nat) (tb : Nat) (tr : Nat) (fz : Nat) (na : Int32) (su : Int32) (le : Int32) (fu : Int32) (ap : Int32) (pp : Int32) (tc : Int32) (nm : Int32) (v : Int32) (n : Int32) (k : Int32) (sf : Nat → Int32) (v0 : Int) (hsi : SI sf v0) : mi l yX8_ahead wsX8_ahead ({ frames := 6, cells := 0, slots := 0, locals := 144 }) D cI cB cQ [.ref h, .int v, .int n, .int k] sz [(h, .inr (7, [.ref sl, .int na, .ref zs, .ref ln, .ref ir, .ref tk, .int su, .int le, .ref tb, .int fu, .int ap, .int pp, .ref tr, .int tc, .ref fz, .int nm])), (sl, .inl (cI, 1653, .inl sf))] (fun (r : Int32) (u : (Nat → Int32)) => (FRM (1539) (1596) sf u) ∧ (SI u v0)) (fun u => [(h, .inr (7, [.ref sl, .int na, .ref zs, .ref ln, .ref ir, .ref tk, .int su, .int le, .ref tb, .int fu, .int ap, .int pp, .ref tr, .int tc, .ref fz, .int nm])), (sl, .inl (cI, 1653, .inl u))]) 0 0 := by
  refine wm_i (cc := cX8_ahead) (maxL := 4) (ret := (some .int)) (by decide) rfl (Nat.le_of_ble_eq_true rfl) ?_
  intro p e s m below meth c A ls hx hb hr hml hown hts hlocks hin hP hK hD hN hA hl hS
  have hown : s.vm.findClass RX8 = some m.cls := hown
  have hl : lv_has ls 4 [(0, .ref h), (1, .int v), (2, .int n), (3, .int k)] := hl
  change W p l e ({ frames := 6, cells := 0, slots := 0, locals := 144 }) s m ([.ref h, .int v, .int n, .int k] : List Value).toArray below meth c s.heap [] 0 0 (MQ below (va_Qi (fun (r : Int32) (u : (Nat → Int32)) => (FRM (1539) (1596) sf u) ∧ (SI u v0)) (fun u t => wb D A ((fun u => [(h, .inr (7, [.ref sl, .int na, .ref zs, .ref ln, .ref ir, .ref tk, .int su, .int le, .ref tb, .int fu, .int ap, .int pp, .ref tr, .int tc, .ref fz, .int nm])), (sl, .inl (cI, 1653, .inl u))]) u) t) A) ([.ref h, .int v, .int n, .int k] : List Value).toArray s 0 0 A) (F0 m 0 ls [])
  refine lv_aload_n hx hb dX8_ahead_0 rfl (lv_at hl 0 rfl) ?_
  refine lv_iload_n hx hb dX8_ahead_1 rfl (lv_at hl 1 rfl) ?_
  have k_1 := (g_X8_isWalkerThere l D cI cB cQ s.heap.size h sl zs ln ir tk tb tr fz na su le fu ap pp tc nm v sf v0 hsi)
  refine wc_i (WC := [(h, .inr (7, [.ref sl, .int na, .ref zs, .ref ln, .ref ir, .ref tk, .int su, .int le, .ref tb, .int fu, .int ap, .int pp, .ref tr, .int tc, .ref fz, .int nm])), (sl, .inl (cI, 1653, .inl sf))]) (WR := []) (va_runV (As := [.int v]) (rest := []) ⟨hx, hb, hml, hown, hts⟩ k_1 (cwV 1 hts gX8_ahead_X8_isWalkerThere rfl rfl rfl (by decide +kernel) ⟨Nat.le_of_ble_eq_true rfl, Nat.le_of_ble_eq_true rfl⟩) (wp_V hP hK hD hN [0, 1] (by decide) rfl (ci := 7) rfl rfl) rfl rfl hl.1 rfl (lv_room (Nat.le_of_ble_eq_true rfl)) dX8_ahead_2 ⟨Nat.le_of_ble_eq_true rfl, Nat.le_of_ble_eq_true rfl⟩) hP hD hS hA [0, 1] [] rfl rfl (by decide) (by decide) (fun r_1 u_1 H locs hw_1 hP hD hS => ?_)
  clear k_1
  have hP : va_P D kl [(h, .inr (7, [.ref sl, .int na, .ref zs, .ref ln, .ref ir, .ref tk, .int su, .int le, .ref tb, .int fu, .int ap, .int pp, .ref tr, .int tc, .ref fz, .int nm])), (sl, .inl (cI, 1653, .inl sf))] H := hP
  have hD : va_D A [(h, .inr (7, [.ref sl, .int na, .ref zs, .ref ln, .ref ir, .ref tk, .int su, .int le, .ref tb, .int fu, .int ap, .int pp, .ref tr, .int tc, .ref fz, .int nm])), (sl, .inl (cI, 1653, .inl sf))] := hD
  have c1_0 := hw_1
  rcases c1_0 with ⟨e_1, f_1⟩ | e_1
  · subst e_1
    have f_1 : 0 ≤ v.toInt ∧ v.toInt ≤ 2 := f_1
    refine lv_if_eq (tgt := 30) hx hb dX8_ahead_5 (by decide) (fun c9 => absurd c9 (by decide)) (fun _ => ?_)
    refine lv_iload_n hx hb dX8_ahead_8 rfl (lv_at hl 2 rfl) ?_
    refine lv_i2l (v := (n.toInt64)) hx hb dX8_ahead_9 rfl ?_
    refine lv_lconst (v := 0) hx hb dX8_ahead_10 (by decide) ?_
    refine lv_ldc2 (v := 100) hx hb hown (hts (.constantLong RX8 160 (100)) (List.mem_of_getElem? (i := 1) rfl)) dX8_ahead_11 ?_
    have k_2 := (g_X8_in l D cI cB cQ H.size (n.toInt64) 0 100)
    refine wc_i (WC := []) (WR := [(h, .inr (7, [.ref sl, .int na, .ref zs, .ref ln, .ref ir, .ref tk, .int su, .int le, .ref tb, .int fu, .int ap, .int pp, .ref tr, .int tc, .ref fz, .int nm])), (sl, .inl (cI, 1653, .inl sf))]) (va_runS (As := [.long (n.toInt64), .long 0, .long 100]) (rest := []) ⟨hx, hb, hml, hown, hts⟩ k_2 (va_cwS 3 hts gX8_ahead_X8_in rfl rfl rfl (by decide +kernel) ⟨Nat.le_of_ble_eq_true rfl, Nat.le_of_ble_eq_true rfl⟩) (wp_S hP hK hD hN [] (by decide) rfl) rfl rfl hl.1 rfl (lv_room (Nat.le_of_ble_eq_true rfl)) dX8_ahead_14 ⟨Nat.le_of_ble_eq_true rfl, Nat.le_of_ble_eq_true rfl⟩) hP hD hS hA [] [0, 1] rfl rfl (by decide) (by decide) (fun r_2 u_2 H locs hw_2 hP hD hS => ?_)
    clear k_2
    have hP : va_P D kl [(h, .inr (7, [.ref sl, .int na, .ref zs, .ref ln, .ref ir, .ref tk, .int su, .int le, .ref tb, .int fu, .int ap, .int pp, .ref tr, .int tc, .ref fz, .int nm])), (sl, .inl (cI, 1653, .inl sf))] H := hP
    have hD : va_D A [(h, .inr (7, [.ref sl, .int na, .ref zs, .ref ln, .ref ir, .ref tk, .int su, .int le, .ref tb, .int fu, .int ap, .int pp, .ref tr, .int tc, .ref fz, .int nm])), (sl, .inl (cI, 1653, .inl sf))] := hD
    have c2_0 := hw_2
    rcases c2_0 with ⟨e_2, f_2⟩ | ⟨e_2, f_2⟩
    · subst e_2
      have f_2 : (0 : Int) ≤ n.toInt ∧ n.toInt ≤ (100 : Int) := by
        have h8 := f_2
        try simp only [zl_of] at h8
        exact h8
      refine lv_if_eq (tgt := 30) hx hb dX8_ahead_17 (by decide) (fun c9 => absurd c9 (by decide)) (fun _ => ?_)
      refine lv_iload_n hx hb dX8_ahead_20 rfl (lv_at hl 3 rfl) ?_
      refine lv_i2l (v := (k.toInt64)) hx hb dX8_ahead_21 rfl ?_
      refine lv_lconst (v := 0) hx hb dX8_ahead_22 (by decide) ?_
      refine lv_lconst (v := 1) hx hb dX8_ahead_23 (by decide) ?_
      have k_3 := (g_X8_in l D cI cB cQ H.size (k.toInt64) 0 1)
      refine wc_i (WC := []) (WR := [(h, .inr (7, [.ref sl, .int na, .ref zs, .ref ln, .ref ir, .ref tk, .int su, .int le, .ref tb, .int fu, .int ap, .int pp, .ref tr, .int tc, .ref fz, .int nm])), (sl, .inl (cI, 1653, .inl sf))]) (va_runS (As := [.long (k.toInt64), .long 0, .long 1]) (rest := []) ⟨hx, hb, hml, hown, hts⟩ k_3 (va_cwS 3 hts gX8_ahead_X8_in rfl rfl rfl (by decide +kernel) ⟨Nat.le_of_ble_eq_true rfl, Nat.le_of_ble_eq_true rfl⟩) (wp_S hP hK hD hN [] (by decide) rfl) rfl rfl hl.1 rfl (lv_room (Nat.le_of_ble_eq_true rfl)) dX8_ahead_24 ⟨Nat.le_of_ble_eq_true rfl, Nat.le_of_ble_eq_true rfl⟩) hP hD hS hA [] [0, 1] rfl rfl (by decide) (by decide) (fun r_3 u_3 H locs hw_3 hP hD hS => ?_)
      clear k_3
      have hP : va_P D kl [(h, .inr (7, [.ref sl, .int na, .ref zs, .ref ln, .ref ir, .ref tk, .int su, .int le, .ref tb, .int fu, .int ap, .int pp, .ref tr, .int tc, .ref fz, .int nm])), (sl, .inl (cI, 1653, .inl sf))] H := hP
      have hD : va_D A [(h, .inr (7, [.ref sl, .int na, .ref zs, .ref ln, .ref ir, .ref tk, .int su, .int le, .ref tb, .int fu, .int ap, .int pp, .ref tr, .int tc, .ref fz, .int nm])), (sl, .inl (cI, 1653, .inl sf))] := hD
      have c3_0 := hw_3
      rcases c3_0 with ⟨e_3, f_3⟩ | ⟨e_3, f_3⟩
      · subst e_3
        have f_3 : (0 : Int) ≤ k.toInt ∧ k.toInt ≤ (1 : Int) := by
          have h8 := f_3
          try simp only [zl_of] at h8
          exact h8
        refine lv_if_ne (tgt := 33) hx hb dX8_ahead_27 (by decide) (fun _ => ?_) (fun c9 => absurd c9 (by decide))
        refine lv_aload_n hx hb dX8_ahead_33 rfl (lv_at hl 0 rfl) ?_
        refine lv_iload_n hx hb dX8_ahead_34 rfl (lv_at hl 2 rfl) ?_
        have k_4 := (f_X8_again l D cI cB cQ H.size h sl zs ln ir tk tb tr fz na su le fu ap pp tc nm n sf v0 hsi (by omega))
        refine wc_v (WC := [(h, .inr (7, [.ref sl, .int na, .ref zs, .ref ln, .ref ir, .ref tk, .int su, .int le, .ref tb, .int fu, .int ap, .int pp, .ref tr, .int tc, .ref fz, .int nm])), (sl, .inl (cI, 1653, .inl sf))]) (WR := []) (va_runV (As := [.int n]) (rest := []) ⟨hx, hb, hml, hown, hts⟩ k_4 (cwV 1 hts gX8_ahead_X8_again rfl rfl rfl (by decide +kernel) ⟨Nat.le_of_ble_eq_true rfl, Nat.le_of_ble_eq_true rfl⟩) (wp_V hP hK hD hN [0, 1] (by decide) rfl (ci := 7) rfl rfl) rfl rfl hl.1 rfl (lv_room (Nat.le_of_ble_eq_true rfl)) dX8_ahead_35 ⟨Nat.le_of_ble_eq_true rfl, Nat.le_of_ble_eq_true rfl⟩) hP hD hS hA [0, 1] [] rfl rfl (by decide) (by decide) (fun u_4 H locs hw_4 hP hD hS => ?_)
        clear k_4
        have hP : va_P D kl [(h, .inr (7, [.ref sl, .int na, .ref zs, .ref ln, .ref ir, .ref tk, .int su, .int le, .ref tb, .int fu, .int ap, .int pp, .ref tr, .int tc, .ref fz, .int nm])), (sl, .inl (cI, 1653, .inl u_4))] H := hP
        have hD : va_D A [(h, .inr (7, [.ref sl, .int na, .ref zs, .ref ln, .ref ir, .ref tk, .int su, .int le, .ref tb, .int fu, .int ap, .int pp, .ref tr, .int tc, .ref fz, .int nm])), (sl, .inl (cI, 1653, .inl u_4))] := hD
        obtain ⟨c4_0, c4_1⟩ := hw_4
        have c4_0 : FRM (1539) (1596) sf u_4 := c4_0
        have c4_1 : SI u_4 v0 := c4_1
        have hf_4 : FRM (1539) (1596) sf u_4 := FRM.trans FRM.refl (FRM.sub c4_0 (by omega) (by omega))
        refine lv_aload_n hx hb dX8_ahead_38 rfl (lv_at hl 0 rfl) ?_
        refine va_get (D := D) (ci := 7) (v := .ref sl) (C := RX8) (T := TX8) (N := 16) hx hb hts (fun _ h => List.mem_cons_of_mem _ (List.mem_append_right _ h)) hown hK hP 0 rfl rfl 0 (by decide) (hts (.fieldLink RX8 7 "WinterWalkModel" "slot" "[I") (List.mem_of_getElem? (i := 3) rfl)) (fun _ h9 => h9) rfl dX8_ahead_39 ?_
        refine lv_sipush (v := 1539) hx hb dX8_ahead_42 (by decide) ?_
        refine lv_iload_n hx hb dX8_ahead_45 rfl (lv_at hl 3 rfl) ?_
        refine lv_if_ne (tgt := 54) hx hb dX8_ahead_46 (by decide) (fun c_5 => ?_) (fun c_5 => ?_)
        · have f_5 : ¬ k.toInt = 0 := zi_ne c_5
          refine lv_bipush (v := 51) hx hb dX8_ahead_54 (by decide) ?_
          refine lv_iadd hx hb dX8_ahead_56 ?_
          refine lv_topi (fun x_6 ex_6 => ?_)
          obtain rfl : x_6 = 1590 := ex_6.trans (by decide)
          refine lv_iload_n hx hb dX8_ahead_57 rfl (lv_at hl 1 rfl) ?_
          refine lv_iadd hx hb dX8_ahead_58 ?_
          refine lv_topi (fun x_7 ex_7 => ?_)
          have e_7 : x_7.toInt = 1590 + v.toInt := by rw [ex_7]; exact zi_add (by decide) (rfl) (by omega) (by omega)
          clear ex_7
          refine va_iald hx hb hK hP 1 0 rfl rfl (zi_in (by omega) (by omega)) dX8_ahead_59 ?_
          refine lv_topi (fun x_8 ex_8 => ?_)
          clear ex_8
          exact wr_i (v := x_8) hx hb hr hlocks hS u_4 (by exact ⟨show FRM (1539) (1596) sf u_4 from hf_4, c4_1⟩) (hP.sub [0, 1] rfl) (hD.sub [0, 1] (by decide) rfl) dX8_ahead_60
        · have f_5 : k.toInt = 0 := zi_eq c_5
          refine lv_bipush (v := 48) hx hb dX8_ahead_49 (by decide) ?_
          refine lv_goto (tgt := 56) hx hb dX8_ahead_51 (by decide) ?_
          refine lv_iadd hx hb dX8_ahead_56 ?_
          refine lv_topi (fun x_9 ex_9 => ?_)
          obtain rfl : x_9 = 1587 := ex_9.trans (by decide)
          refine lv_iload_n hx hb dX8_ahead_57 rfl (lv_at hl 1 rfl) ?_
          refine lv_iadd hx hb dX8_ahead_58 ?_
          refine lv_topi (fun x_10 ex_10 => ?_)
          have e_10 : x_10.toInt = 1587 + v.toInt := by rw [ex_10]; exact zi_add (by decide) (rfl) (by omega) (by omega)
          clear ex_10
          refine va_iald hx hb hK hP 1 0 rfl rfl (zi_in (by omega) (by omega)) dX8_ahead_59 ?_
          refine lv_topi (fun x_11 ex_11 => ?_)
          have f_11 : 0 ≤ x_11.toInt ∧ x_11.toInt ≤ 7 := by rw [ex_11]; exact si_a c4_1 (s := 27) (k := v.toInt) (by omega) (by omega) (by omega)
          clear ex_11
          exact wr_i (v := x_11) hx hb hr hlocks hS u_4 (by exact ⟨show FRM (1539) (1596) sf u_4 from hf_4, c4_1⟩) (hP.sub [0, 1] rfl) (hD.sub [0, 1] (by decide) rfl) dX8_ahead_60
      · subst e_3
        have f_3 : ¬ ((0 : Int) ≤ k.toInt ∧ k.toInt ≤ (1 : Int)) := by
          have h8 := f_3
          try simp only [zl_of] at h8
          exact h8
        refine lv_if_ne (tgt := 33) hx hb dX8_ahead_27 (by decide) (fun c9 => absurd (by decide) c9) (fun _ => ?_)
        refine lv_ldc (v := (-1000001)) hx hb hown (hts (.constant RX8 48 (-1000001)) (List.mem_of_getElem? (i := 2) rfl)) dX8_ahead_30 ?_
        exact wr_i (v := (-1000001)) hx hb hr hlocks hS sf (by exact ⟨show FRM (1539) (1596) sf sf from FRM.refl, hsi⟩) (hP.sub [0, 1] rfl) (hD.sub [0, 1] (by decide) rfl) dX8_ahead_32
    · subst e_2
      have f_2 : ¬ ((0 : Int) ≤ n.toInt ∧ n.toInt ≤ (100 : Int)) := by
        have h8 := f_2
        try simp only [zl_of] at h8
        exact h8
      refine lv_if_eq (tgt := 30) hx hb dX8_ahead_17 (by decide) (fun _ => ?_) (fun c9 => absurd (by decide) c9)
      refine lv_ldc (v := (-1000001)) hx hb hown (hts (.constant RX8 48 (-1000001)) (List.mem_of_getElem? (i := 2) rfl)) dX8_ahead_30 ?_
      exact wr_i (v := (-1000001)) hx hb hr hlocks hS sf (by exact ⟨show FRM (1539) (1596) sf sf from FRM.refl, hsi⟩) (hP.sub [0, 1] rfl) (hD.sub [0, 1] (by decide) rfl) dX8_ahead_32
  · subst e_1
    refine lv_if_eq (tgt := 30) hx hb dX8_ahead_5 (by decide) (fun _ => ?_) (fun c9 => absurd (by decide) c9)
    refine lv_ldc (v := (-1000001)) hx hb hown (hts (.constant RX8 48 (-1000001)) (List.mem_of_getElem? (i := 2) rfl)) dX8_ahead_30 ?_
    exact wr_i (v := (-1000001)) hx hb hr hlocks hS sf (by exact ⟨show FRM (1539) (1596) sf sf from FRM.refl, hsi⟩) (hP.sub [0, 1] rfl) (hD.sub [0, 1] (by decide) rfl) dX8_ahead_32
set_option maxHeartbeats 4000000 in
set_option maxRecDepth 100000 in
theorem f_X8_cold (l : Launch) (D : va_G) (cI cB cQ : ClassId) (sz : Nat) (h : Nat) (sl : Nat) (zs : Nat) (ln : Nat) (ir : Nat) (tk : Nat) (tb : Nat) (tr : Nat) (fz : Nat) (na : Int32) (su : Int32) (le : Int32) (fu : Int32) (ap : Int32) (pp : Int32) (tc : Int32) (nm : Int32) (n : Int32) (k : Int32) (sf : Nat → Int32) (v0 : Int) (hsi : SI sf v0) : mi l yX8_cold wsX8_cold ({ frames := 6, cells := 0, slots := 0, locals := 144 }) D cI cB cQ [.ref h, .int n, .int k] sz [(h, .inr (7, [.ref sl, .int na, .ref zs, .ref ln, .ref ir, .ref tk, .int su, .int le, .ref tb, .int fu, .int ap, .int pp, .ref tr, .int tc, .ref fz, .int nm])), (sl, .inl (cI, 1653, .inl sf))] (fun (r : Int32) (u : (Nat → Int32)) => (FRM (1539) (1596) sf u) ∧ (SI u v0)) (fun u => [(h, .inr (7, [.ref sl, .int na, .ref zs, .ref ln, .ref ir, .ref tk, .int su, .int le, .ref tb, .int fu, .int ap, .int pp, .ref tr, .int tc, .ref fz, .int nm])), (sl, .inl (cI, 1653, .inl u))]) 0 0 := by
  refine wm_i (cc := cX8_cold) (maxL := 3) (ret := (some .int)) (by decide) rfl (Nat.le_of_ble_eq_true rfl) ?_
  intro p e s m below meth c A ls hx hb hr hml hown hts hlocks hin hP hK hD hN hA hl hS
  have hown : s.vm.findClass RX8 = some m.cls := hown
  have hl : lv_has ls 3 [(0, .ref h), (1, .int n), (2, .int k)] := hl
  change W p l e ({ frames := 6, cells := 0, slots := 0, locals := 144 }) s m ([.ref h, .int n, .int k] : List Value).toArray below meth c s.heap [] 0 0 (MQ below (va_Qi (fun (r : Int32) (u : (Nat → Int32)) => (FRM (1539) (1596) sf u) ∧ (SI u v0)) (fun u t => wb D A ((fun u => [(h, .inr (7, [.ref sl, .int na, .ref zs, .ref ln, .ref ir, .ref tk, .int su, .int le, .ref tb, .int fu, .int ap, .int pp, .ref tr, .int tc, .ref fz, .int nm])), (sl, .inl (cI, 1653, .inl u))]) u) t) A) ([.ref h, .int n, .int k] : List Value).toArray s 0 0 A) (F0 m 0 ls [])
  refine lv_aload_n hx hb dX8_cold_0 rfl (lv_at hl 0 rfl) ?_
  refine va_get (D := D) (ci := 7) (v := .ref sl) (C := RX8) (T := TX8) (N := 16) hx hb hts (fun _ h => List.mem_cons_of_mem _ (List.mem_append_right _ h)) hown hK hP 0 rfl rfl 0 (by decide) (hts (.fieldLink RX8 7 "WinterWalkModel" "slot" "[I") (List.mem_of_getElem? (i := 1) rfl)) (fun _ h9 => h9) rfl dX8_cold_1 ?_
  refine lv_iconst (v := 1) hx hb dX8_cold_4 (by decide) ?_
  refine va_iald hx hb hK hP 1 0 rfl rfl (zi_in (by decide) (by decide)) dX8_cold_5 ?_
  refine lv_topi (fun x_1 ex_1 => ?_)
  have f_1 : 0 ≤ x_1.toInt ∧ x_1.toInt ≤ 8 := by rw [ex_1]; exact si_v hsi (s := 0) (by decide) (by omega)
  have g_1 : x_1.toInt = v0 := by rw [ex_1]; exact hsi.2
  refine lv_if_ne (tgt := 12) hx hb dX8_cold_6 (by decide) (fun c_2 => ?_) (fun c_2 => ?_)
  · have f_2 : ¬ x_1.toInt = 0 := zi_ne c_2
    refine lv_iload_n hx hb dX8_cold_12 rfl (lv_at hl 1 rfl) ?_
    refine lv_i2l (v := (n.toInt64)) hx hb dX8_cold_13 rfl ?_
    refine lv_lconst (v := 0) hx hb dX8_cold_14 (by decide) ?_
    refine lv_ldc2 (v := 100) hx hb hown (hts (.constantLong RX8 160 (100)) (List.mem_of_getElem? (i := 3) rfl)) dX8_cold_15 ?_
    have k_3 := (g_X8_in l D cI cB cQ s.heap.size (n.toInt64) 0 100)
    refine wc_i (WC := []) (WR := [(h, .inr (7, [.ref sl, .int na, .ref zs, .ref ln, .ref ir, .ref tk, .int su, .int le, .ref tb, .int fu, .int ap, .int pp, .ref tr, .int tc, .ref fz, .int nm])), (sl, .inl (cI, 1653, .inl sf))]) (va_runS (As := [.long (n.toInt64), .long 0, .long 100]) (rest := []) ⟨hx, hb, hml, hown, hts⟩ k_3 (va_cwS 3 hts gX8_cold_X8_in rfl rfl rfl (by decide +kernel) ⟨Nat.le_of_ble_eq_true rfl, Nat.le_of_ble_eq_true rfl⟩) (wp_S hP hK hD hN [] (by decide) rfl) rfl rfl hl.1 rfl (lv_room (Nat.le_of_ble_eq_true rfl)) dX8_cold_18 ⟨Nat.le_of_ble_eq_true rfl, Nat.le_of_ble_eq_true rfl⟩) hP hD hS hA [] [0, 1] rfl rfl (by decide) (by decide) (fun r_3 u_3 H locs hw_3 hP hD hS => ?_)
    clear k_3
    have hP : va_P D kl [(h, .inr (7, [.ref sl, .int na, .ref zs, .ref ln, .ref ir, .ref tk, .int su, .int le, .ref tb, .int fu, .int ap, .int pp, .ref tr, .int tc, .ref fz, .int nm])), (sl, .inl (cI, 1653, .inl sf))] H := hP
    have hD : va_D A [(h, .inr (7, [.ref sl, .int na, .ref zs, .ref ln, .ref ir, .ref tk, .int su, .int le, .ref tb, .int fu, .int ap, .int pp, .ref tr, .int tc, .ref fz, .int nm])), (sl, .inl (cI, 1653, .inl sf))] := hD
    have c3_0 := hw_3
    rcases c3_0 with ⟨e_3, f_3⟩ | ⟨e_3, f_3⟩
    · subst e_3
      have f_3 : (0 : Int) ≤ n.toInt ∧ n.toInt ≤ (100 : Int) := by
        have h8 := f_3
        try simp only [zl_of] at h8
        exact h8
      refine lv_if_eq (tgt := 36) hx hb dX8_cold_21 (by decide) (fun c9 => absurd c9 (by decide)) (fun _ => ?_)
      refine lv_iload_n hx hb dX8_cold_24 rfl (lv_at hl 2 rfl) ?_
      refine lv_i2l (v := (k.toInt64)) hx hb dX8_cold_25 rfl ?_
      refine lv_lconst (v := 0) hx hb dX8_cold_26 (by decide) ?_
      refine lv_ldc2 (v := 2) hx hb hown (hts (.constantLong RX8 46 (2)) (List.mem_of_getElem? (i := 4) rfl)) dX8_cold_27 ?_
      have k_4 := (g_X8_in l D cI cB cQ H.size (k.toInt64) 0 2)
      refine wc_i (WC := []) (WR := [(h, .inr (7, [.ref sl, .int na, .ref zs, .ref ln, .ref ir, .ref tk, .int su, .int le, .ref tb, .int fu, .int ap, .int pp, .ref tr, .int tc, .ref fz, .int nm])), (sl, .inl (cI, 1653, .inl sf))]) (va_runS (As := [.long (k.toInt64), .long 0, .long 2]) (rest := []) ⟨hx, hb, hml, hown, hts⟩ k_4 (va_cwS 3 hts gX8_cold_X8_in rfl rfl rfl (by decide +kernel) ⟨Nat.le_of_ble_eq_true rfl, Nat.le_of_ble_eq_true rfl⟩) (wp_S hP hK hD hN [] (by decide) rfl) rfl rfl hl.1 rfl (lv_room (Nat.le_of_ble_eq_true rfl)) dX8_cold_30 ⟨Nat.le_of_ble_eq_true rfl, Nat.le_of_ble_eq_true rfl⟩) hP hD hS hA [] [0, 1] rfl rfl (by decide) (by decide) (fun r_4 u_4 H locs hw_4 hP hD hS => ?_)
      clear k_4
      have hP : va_P D kl [(h, .inr (7, [.ref sl, .int na, .ref zs, .ref ln, .ref ir, .ref tk, .int su, .int le, .ref tb, .int fu, .int ap, .int pp, .ref tr, .int tc, .ref fz, .int nm])), (sl, .inl (cI, 1653, .inl sf))] H := hP
      have hD : va_D A [(h, .inr (7, [.ref sl, .int na, .ref zs, .ref ln, .ref ir, .ref tk, .int su, .int le, .ref tb, .int fu, .int ap, .int pp, .ref tr, .int tc, .ref fz, .int nm])), (sl, .inl (cI, 1653, .inl sf))] := hD
      have c4_0 := hw_4
      rcases c4_0 with ⟨e_4, f_4⟩ | ⟨e_4, f_4⟩
      · subst e_4
        have f_4 : (0 : Int) ≤ k.toInt ∧ k.toInt ≤ (2 : Int) := by
          have h8 := f_4
          try simp only [zl_of] at h8
          exact h8
        refine lv_if_ne (tgt := 39) hx hb dX8_cold_33 (by decide) (fun _ => ?_) (fun c9 => absurd c9 (by decide))
        refine lv_aload_n hx hb dX8_cold_39 rfl (lv_at hl 0 rfl) ?_
        refine lv_iload_n hx hb dX8_cold_40 rfl (lv_at hl 1 rfl) ?_
        have k_5 := (f_X8_again l D cI cB cQ H.size h sl zs ln ir tk tb tr fz na su le fu ap pp tc nm n sf v0 hsi (by omega))
        refine wc_v (WC := [(h, .inr (7, [.ref sl, .int na, .ref zs, .ref ln, .ref ir, .ref tk, .int su, .int le, .ref tb, .int fu, .int ap, .int pp, .ref tr, .int tc, .ref fz, .int nm])), (sl, .inl (cI, 1653, .inl sf))]) (WR := []) (va_runV (As := [.int n]) (rest := []) ⟨hx, hb, hml, hown, hts⟩ k_5 (cwV 1 hts gX8_cold_X8_again rfl rfl rfl (by decide +kernel) ⟨Nat.le_of_ble_eq_true rfl, Nat.le_of_ble_eq_true rfl⟩) (wp_V hP hK hD hN [0, 1] (by decide) rfl (ci := 7) rfl rfl) rfl rfl hl.1 rfl (lv_room (Nat.le_of_ble_eq_true rfl)) dX8_cold_41 ⟨Nat.le_of_ble_eq_true rfl, Nat.le_of_ble_eq_true rfl⟩) hP hD hS hA [0, 1] [] rfl rfl (by decide) (by decide) (fun u_5 H locs hw_5 hP hD hS => ?_)
        clear k_5
        have hP : va_P D kl [(h, .inr (7, [.ref sl, .int na, .ref zs, .ref ln, .ref ir, .ref tk, .int su, .int le, .ref tb, .int fu, .int ap, .int pp, .ref tr, .int tc, .ref fz, .int nm])), (sl, .inl (cI, 1653, .inl u_5))] H := hP
        have hD : va_D A [(h, .inr (7, [.ref sl, .int na, .ref zs, .ref ln, .ref ir, .ref tk, .int su, .int le, .ref tb, .int fu, .int ap, .int pp, .ref tr, .int tc, .ref fz, .int nm])), (sl, .inl (cI, 1653, .inl u_5))] := hD
        obtain ⟨c5_0, c5_1⟩ := hw_5
        have c5_0 : FRM (1539) (1596) sf u_5 := c5_0
        have c5_1 : SI u_5 v0 := c5_1
        have hf_5 : FRM (1539) (1596) sf u_5 := FRM.trans FRM.refl (FRM.sub c5_0 (by omega) (by omega))
        refine lv_iload_n hx hb dX8_cold_44 rfl (lv_at hl 2 rfl) ?_
        refine lv_if_ne (tgt := 59) hx hb dX8_cold_45 (by decide) (fun c_6 => ?_) (fun c_6 => ?_)
        · have f_6 : ¬ k.toInt = 0 := zi_ne c_6
          refine lv_iload_n hx hb dX8_cold_59 rfl (lv_at hl 2 rfl) ?_
          refine lv_iconst (v := 1) hx hb dX8_cold_60 (by decide) ?_
          refine lv_icmp_ne (tgt := 75) hx hb dX8_cold_61 (by decide) (fun c_7 => ?_) (fun c_7 => ?_)
          · have f_7 : ¬ k.toInt = 1 := zi_ne c_7
            refine lv_aload_n hx hb dX8_cold_75 rfl (lv_at hl 0 rfl) ?_
            refine lv_bipush (v := 27) hx hb dX8_cold_76 (by decide) ?_
            have k_8 := (g_X8_frozen l D cI cB cQ H.size h sl zs ln ir tk tb tr fz na su le fu ap pp tc nm 27 u_5 v0 c5_1 ⟨by decide, by decide⟩)
            refine wc_i (WC := [(h, .inr (7, [.ref sl, .int na, .ref zs, .ref ln, .ref ir, .ref tk, .int su, .int le, .ref tb, .int fu, .int ap, .int pp, .ref tr, .int tc, .ref fz, .int nm])), (sl, .inl (cI, 1653, .inl u_5))]) (WR := []) (va_runV (As := [.int 27]) (rest := []) ⟨hx, hb, hml, hown, hts⟩ k_8 (cwV 1 hts gX8_cold_X8_frozen rfl rfl rfl (by decide +kernel) ⟨Nat.le_of_ble_eq_true rfl, Nat.le_of_ble_eq_true rfl⟩) (wp_V hP hK hD hN [0, 1] (by decide) rfl (ci := 7) rfl rfl) rfl rfl hl.1 rfl (lv_room (Nat.le_of_ble_eq_true rfl)) dX8_cold_78 ⟨Nat.le_of_ble_eq_true rfl, Nat.le_of_ble_eq_true rfl⟩) hP hD hS hA [0, 1] [] rfl rfl (by decide) (by decide) (fun r_8 u_8 H locs hw_8 hP hD hS => ?_)
            clear k_8
            have hP : va_P D kl [(h, .inr (7, [.ref sl, .int na, .ref zs, .ref ln, .ref ir, .ref tk, .int su, .int le, .ref tb, .int fu, .int ap, .int pp, .ref tr, .int tc, .ref fz, .int nm])), (sl, .inl (cI, 1653, .inl u_5))] H := hP
            have hD : va_D A [(h, .inr (7, [.ref sl, .int na, .ref zs, .ref ln, .ref ir, .ref tk, .int su, .int le, .ref tb, .int fu, .int ap, .int pp, .ref tr, .int tc, .ref fz, .int nm])), (sl, .inl (cI, 1653, .inl u_5))] := hD
            clear hw_8
            exact wr_i (v := r_8) hx hb hr hlocks hS u_5 (by exact ⟨show FRM (1539) (1596) sf u_5 from hf_5, c5_1⟩) (hP.sub [0, 1] rfl) (hD.sub [0, 1] (by decide) rfl) dX8_cold_81
          · have f_7 : k.toInt = 1 := zi_eq c_7
            refine lv_aload_n hx hb dX8_cold_64 rfl (lv_at hl 0 rfl) ?_
            refine va_get (D := D) (ci := 7) (v := .ref sl) (C := RX8) (T := TX8) (N := 16) hx hb hts (fun _ h => List.mem_cons_of_mem _ (List.mem_append_right _ h)) hown hK hP 0 rfl rfl 0 (by decide) (hts (.fieldLink RX8 7 "WinterWalkModel" "slot" "[I") (List.mem_of_getElem? (i := 1) rfl)) (fun _ h9 => h9) rfl dX8_cold_65 ?_
            refine lv_sipush (v := 1595) hx hb dX8_cold_68 (by decide) ?_
            refine va_iald hx hb hK hP 1 0 rfl rfl (zi_in (by decide) (by decide)) dX8_cold_71 ?_
            refine lv_topi (fun x_9 ex_9 => ?_)
            refine lv_goto (tgt := 81) hx hb dX8_cold_72 (by decide) ?_
            exact wr_i (v := x_9) hx hb hr hlocks hS u_5 (by exact ⟨show FRM (1539) (1596) sf u_5 from hf_5, c5_1⟩) (hP.sub [0, 1] rfl) (hD.sub [0, 1] (by decide) rfl) dX8_cold_81
        · have f_6 : k.toInt = 0 := zi_eq c_6
          refine lv_aload_n hx hb dX8_cold_48 rfl (lv_at hl 0 rfl) ?_
          refine va_get (D := D) (ci := 7) (v := .ref sl) (C := RX8) (T := TX8) (N := 16) hx hb hts (fun _ h => List.mem_cons_of_mem _ (List.mem_append_right _ h)) hown hK hP 0 rfl rfl 0 (by decide) (hts (.fieldLink RX8 7 "WinterWalkModel" "slot" "[I") (List.mem_of_getElem? (i := 1) rfl)) (fun _ h9 => h9) rfl dX8_cold_49 ?_
          refine lv_sipush (v := 1594) hx hb dX8_cold_52 (by decide) ?_
          refine va_iald hx hb hK hP 1 0 rfl rfl (zi_in (by decide) (by decide)) dX8_cold_55 ?_
          refine lv_topi (fun x_10 ex_10 => ?_)
          refine lv_goto (tgt := 81) hx hb dX8_cold_56 (by decide) ?_
          exact wr_i (v := x_10) hx hb hr hlocks hS u_5 (by exact ⟨show FRM (1539) (1596) sf u_5 from hf_5, c5_1⟩) (hP.sub [0, 1] rfl) (hD.sub [0, 1] (by decide) rfl) dX8_cold_81
      · subst e_4
        have f_4 : ¬ ((0 : Int) ≤ k.toInt ∧ k.toInt ≤ (2 : Int)) := by
          have h8 := f_4
          try simp only [zl_of] at h8
          exact h8
        refine lv_if_ne (tgt := 39) hx hb dX8_cold_33 (by decide) (fun c9 => absurd (by decide) c9) (fun _ => ?_)
        refine lv_ldc (v := (-1000001)) hx hb hown (hts (.constant RX8 48 (-1000001)) (List.mem_of_getElem? (i := 5) rfl)) dX8_cold_36 ?_
        exact wr_i (v := (-1000001)) hx hb hr hlocks hS sf (by exact ⟨show FRM (1539) (1596) sf sf from FRM.refl, hsi⟩) (hP.sub [0, 1] rfl) (hD.sub [0, 1] (by decide) rfl) dX8_cold_38
    · subst e_3
      have f_3 : ¬ ((0 : Int) ≤ n.toInt ∧ n.toInt ≤ (100 : Int)) := by
        have h8 := f_3
        try simp only [zl_of] at h8
        exact h8
      refine lv_if_eq (tgt := 36) hx hb dX8_cold_21 (by decide) (fun _ => ?_) (fun c9 => absurd (by decide) c9)
      refine lv_ldc (v := (-1000001)) hx hb hown (hts (.constant RX8 48 (-1000001)) (List.mem_of_getElem? (i := 5) rfl)) dX8_cold_36 ?_
      exact wr_i (v := (-1000001)) hx hb hr hlocks hS sf (by exact ⟨show FRM (1539) (1596) sf sf from FRM.refl, hsi⟩) (hP.sub [0, 1] rfl) (hD.sub [0, 1] (by decide) rfl) dX8_cold_38
  · have f_2 : x_1.toInt = 0 := zi_eq c_2
    refine lv_ldc (v := (-1000002)) hx hb hown (hts (.constant RX8 121 (-1000002)) (List.mem_of_getElem? (i := 2) rfl)) dX8_cold_9 ?_
    exact wr_i (v := (-1000002)) hx hb hr hlocks hS sf (by exact ⟨show FRM (1539) (1596) sf sf from FRM.refl, hsi⟩) (hP.sub [0, 1] rfl) (hD.sub [0, 1] (by decide) rfl) dX8_cold_11
set_option maxHeartbeats 4000000 in
set_option maxRecDepth 100000 in
theorem f_X8_nights (l : Launch) (D : va_G) (cI cB cQ : ClassId) (sz : Nat) (h : Nat) (sl : Nat) (zs : Nat) (ln : Nat) (ir : Nat) (tk : Nat) (tb : Nat) (tr : Nat) (fz : Nat) (na : Int32) (su : Int32) (le : Int32) (fu : Int32) (ap : Int32) (pp : Int32) (tc : Int32) (nm : Int32) (v : Int32) (n : Int32) (sf : Nat → Int32) (v0 : Int) (hsi : SI sf v0) : mi l yX8_nights wsX8_nights ({ frames := 6, cells := 0, slots := 0, locals := 144 }) D cI cB cQ [.ref h, .int v, .int n] sz [(h, .inr (7, [.ref sl, .int na, .ref zs, .ref ln, .ref ir, .ref tk, .int su, .int le, .ref tb, .int fu, .int ap, .int pp, .ref tr, .int tc, .ref fz, .int nm])), (sl, .inl (cI, 1653, .inl sf))] (fun (r : Int32) (u : (Nat → Int32)) => (FRM (1539) (1596) sf u) ∧ (SI u v0)) (fun u => [(h, .inr (7, [.ref sl, .int na, .ref zs, .ref ln, .ref ir, .ref tk, .int su, .int le, .ref tb, .int fu, .int ap, .int pp, .ref tr, .int tc, .ref fz, .int nm])), (sl, .inl (cI, 1653, .inl u))]) 0 0 := by
  refine wm_i (cc := cX8_nights) (maxL := 3) (ret := (some .int)) (by decide) rfl (Nat.le_of_ble_eq_true rfl) ?_
  intro p e s m below meth c A ls hx hb hr hml hown hts hlocks hin hP hK hD hN hA hl hS
  have hown : s.vm.findClass RX8 = some m.cls := hown
  have hl : lv_has ls 3 [(0, .ref h), (1, .int v), (2, .int n)] := hl
  change W p l e ({ frames := 6, cells := 0, slots := 0, locals := 144 }) s m ([.ref h, .int v, .int n] : List Value).toArray below meth c s.heap [] 0 0 (MQ below (va_Qi (fun (r : Int32) (u : (Nat → Int32)) => (FRM (1539) (1596) sf u) ∧ (SI u v0)) (fun u t => wb D A ((fun u => [(h, .inr (7, [.ref sl, .int na, .ref zs, .ref ln, .ref ir, .ref tk, .int su, .int le, .ref tb, .int fu, .int ap, .int pp, .ref tr, .int tc, .ref fz, .int nm])), (sl, .inl (cI, 1653, .inl u))]) u) t) A) ([.ref h, .int v, .int n] : List Value).toArray s 0 0 A) (F0 m 0 ls [])
  refine lv_aload_n hx hb dX8_nights_0 rfl (lv_at hl 0 rfl) ?_
  refine lv_iload_n hx hb dX8_nights_1 rfl (lv_at hl 1 rfl) ?_
  have k_1 := (g_X8_isVillageThere l D cI cB cQ s.heap.size h sl zs ln ir tk tb tr fz na su le fu ap pp tc nm v sf v0 hsi)
  refine wc_i (WC := [(h, .inr (7, [.ref sl, .int na, .ref zs, .ref ln, .ref ir, .ref tk, .int su, .int le, .ref tb, .int fu, .int ap, .int pp, .ref tr, .int tc, .ref fz, .int nm])), (sl, .inl (cI, 1653, .inl sf))]) (WR := []) (va_runV (As := [.int v]) (rest := []) ⟨hx, hb, hml, hown, hts⟩ k_1 (cwV 1 hts gX8_nights_X8_isVillageThere rfl rfl rfl (by decide +kernel) ⟨Nat.le_of_ble_eq_true rfl, Nat.le_of_ble_eq_true rfl⟩) (wp_V hP hK hD hN [0, 1] (by decide) rfl (ci := 7) rfl rfl) rfl rfl hl.1 rfl (lv_room (Nat.le_of_ble_eq_true rfl)) dX8_nights_2 ⟨Nat.le_of_ble_eq_true rfl, Nat.le_of_ble_eq_true rfl⟩) hP hD hS hA [0, 1] [] rfl rfl (by decide) (by decide) (fun r_1 u_1 H locs hw_1 hP hD hS => ?_)
  clear k_1
  have hP : va_P D kl [(h, .inr (7, [.ref sl, .int na, .ref zs, .ref ln, .ref ir, .ref tk, .int su, .int le, .ref tb, .int fu, .int ap, .int pp, .ref tr, .int tc, .ref fz, .int nm])), (sl, .inl (cI, 1653, .inl sf))] H := hP
  have hD : va_D A [(h, .inr (7, [.ref sl, .int na, .ref zs, .ref ln, .ref ir, .ref tk, .int su, .int le, .ref tb, .int fu, .int ap, .int pp, .ref tr, .int tc, .ref fz, .int nm])), (sl, .inl (cI, 1653, .inl sf))] := hD
  have c1_0 := hw_1
  rcases c1_0 with ⟨e_1, f_1⟩ | e_1
  · subst e_1
    have f_1 : 0 ≤ v.toInt ∧ v.toInt ≤ 7 ∧ v.toInt < v0 := f_1
    refine lv_if_eq (tgt := 20) hx hb dX8_nights_5 (by decide) (fun c9 => absurd c9 (by decide)) (fun _ => ?_)
    refine lv_iload_n hx hb dX8_nights_8 rfl (lv_at hl 2 rfl) ?_
    refine lv_i2l (v := (n.toInt64)) hx hb dX8_nights_9 rfl ?_
    refine lv_lconst (v := 0) hx hb dX8_nights_10 (by decide) ?_
    refine lv_ldc2 (v := 100) hx hb hown (hts (.constantLong RX8 160 (100)) (List.mem_of_getElem? (i := 1) rfl)) dX8_nights_11 ?_
    have k_2 := (g_X8_in l D cI cB cQ H.size (n.toInt64) 0 100)
    refine wc_i (WC := []) (WR := [(h, .inr (7, [.ref sl, .int na, .ref zs, .ref ln, .ref ir, .ref tk, .int su, .int le, .ref tb, .int fu, .int ap, .int pp, .ref tr, .int tc, .ref fz, .int nm])), (sl, .inl (cI, 1653, .inl sf))]) (va_runS (As := [.long (n.toInt64), .long 0, .long 100]) (rest := []) ⟨hx, hb, hml, hown, hts⟩ k_2 (va_cwS 3 hts gX8_nights_X8_in rfl rfl rfl (by decide +kernel) ⟨Nat.le_of_ble_eq_true rfl, Nat.le_of_ble_eq_true rfl⟩) (wp_S hP hK hD hN [] (by decide) rfl) rfl rfl hl.1 rfl (lv_room (Nat.le_of_ble_eq_true rfl)) dX8_nights_14 ⟨Nat.le_of_ble_eq_true rfl, Nat.le_of_ble_eq_true rfl⟩) hP hD hS hA [] [0, 1] rfl rfl (by decide) (by decide) (fun r_2 u_2 H locs hw_2 hP hD hS => ?_)
    clear k_2
    have hP : va_P D kl [(h, .inr (7, [.ref sl, .int na, .ref zs, .ref ln, .ref ir, .ref tk, .int su, .int le, .ref tb, .int fu, .int ap, .int pp, .ref tr, .int tc, .ref fz, .int nm])), (sl, .inl (cI, 1653, .inl sf))] H := hP
    have hD : va_D A [(h, .inr (7, [.ref sl, .int na, .ref zs, .ref ln, .ref ir, .ref tk, .int su, .int le, .ref tb, .int fu, .int ap, .int pp, .ref tr, .int tc, .ref fz, .int nm])), (sl, .inl (cI, 1653, .inl sf))] := hD
    have c2_0 := hw_2
    rcases c2_0 with ⟨e_2, f_2⟩ | ⟨e_2, f_2⟩
    · subst e_2
      have f_2 : (0 : Int) ≤ n.toInt ∧ n.toInt ≤ (100 : Int) := by
        have h8 := f_2
        try simp only [zl_of] at h8
        exact h8
      refine lv_if_ne (tgt := 23) hx hb dX8_nights_17 (by decide) (fun _ => ?_) (fun c9 => absurd c9 (by decide))
      refine lv_aload_n hx hb dX8_nights_23 rfl (lv_at hl 0 rfl) ?_
      refine lv_iload_n hx hb dX8_nights_24 rfl (lv_at hl 2 rfl) ?_
      have k_3 := (f_X8_again l D cI cB cQ H.size h sl zs ln ir tk tb tr fz na su le fu ap pp tc nm n sf v0 hsi (by omega))
      refine wc_v (WC := [(h, .inr (7, [.ref sl, .int na, .ref zs, .ref ln, .ref ir, .ref tk, .int su, .int le, .ref tb, .int fu, .int ap, .int pp, .ref tr, .int tc, .ref fz, .int nm])), (sl, .inl (cI, 1653, .inl sf))]) (WR := []) (va_runV (As := [.int n]) (rest := []) ⟨hx, hb, hml, hown, hts⟩ k_3 (cwV 1 hts gX8_nights_X8_again rfl rfl rfl (by decide +kernel) ⟨Nat.le_of_ble_eq_true rfl, Nat.le_of_ble_eq_true rfl⟩) (wp_V hP hK hD hN [0, 1] (by decide) rfl (ci := 7) rfl rfl) rfl rfl hl.1 rfl (lv_room (Nat.le_of_ble_eq_true rfl)) dX8_nights_25 ⟨Nat.le_of_ble_eq_true rfl, Nat.le_of_ble_eq_true rfl⟩) hP hD hS hA [0, 1] [] rfl rfl (by decide) (by decide) (fun u_3 H locs hw_3 hP hD hS => ?_)
      clear k_3
      have hP : va_P D kl [(h, .inr (7, [.ref sl, .int na, .ref zs, .ref ln, .ref ir, .ref tk, .int su, .int le, .ref tb, .int fu, .int ap, .int pp, .ref tr, .int tc, .ref fz, .int nm])), (sl, .inl (cI, 1653, .inl u_3))] H := hP
      have hD : va_D A [(h, .inr (7, [.ref sl, .int na, .ref zs, .ref ln, .ref ir, .ref tk, .int su, .int le, .ref tb, .int fu, .int ap, .int pp, .ref tr, .int tc, .ref fz, .int nm])), (sl, .inl (cI, 1653, .inl u_3))] := hD
      obtain ⟨c3_0, c3_1⟩ := hw_3
      have c3_0 : FRM (1539) (1596) sf u_3 := c3_0
      have c3_1 : SI u_3 v0 := c3_1
      have hf_3 : FRM (1539) (1596) sf u_3 := FRM.trans FRM.refl (FRM.sub c3_0 (by omega) (by omega))
      refine lv_aload_n hx hb dX8_nights_28 rfl (lv_at hl 0 rfl) ?_
      refine va_get (D := D) (ci := 7) (v := .ref sl) (C := RX8) (T := TX8) (N := 16) hx hb hts (fun _ h => List.mem_cons_of_mem _ (List.mem_append_right _ h)) hown hK hP 0 rfl rfl 0 (by decide) (hts (.fieldLink RX8 7 "WinterWalkModel" "slot" "[I") (List.mem_of_getElem? (i := 3) rfl)) (fun _ h9 => h9) rfl dX8_nights_29 ?_
      refine lv_sipush (v := 1579) hx hb dX8_nights_32 (by decide) ?_
      refine lv_iload_n hx hb dX8_nights_35 rfl (lv_at hl 1 rfl) ?_
      refine lv_iadd hx hb dX8_nights_36 ?_
      refine lv_topi (fun x_4 ex_4 => ?_)
      have e_4 : x_4.toInt = 1579 + v.toInt := by rw [ex_4]; exact zi_add (by decide) (rfl) (by omega) (by omega)
      clear ex_4
      refine va_iald hx hb hK hP 1 0 rfl rfl (zi_in (by omega) (by omega)) dX8_nights_37 ?_
      refine lv_topi (fun x_5 ex_5 => ?_)
      clear ex_5
      exact wr_i (v := x_5) hx hb hr hlocks hS u_3 (by exact ⟨show FRM (1539) (1596) sf u_3 from hf_3, c3_1⟩) (hP.sub [0, 1] rfl) (hD.sub [0, 1] (by decide) rfl) dX8_nights_38
    · subst e_2
      have f_2 : ¬ ((0 : Int) ≤ n.toInt ∧ n.toInt ≤ (100 : Int)) := by
        have h8 := f_2
        try simp only [zl_of] at h8
        exact h8
      refine lv_if_ne (tgt := 23) hx hb dX8_nights_17 (by decide) (fun c9 => absurd (by decide) c9) (fun _ => ?_)
      refine lv_ldc (v := (-1000001)) hx hb hown (hts (.constant RX8 48 (-1000001)) (List.mem_of_getElem? (i := 2) rfl)) dX8_nights_20 ?_
      exact wr_i (v := (-1000001)) hx hb hr hlocks hS sf (by exact ⟨show FRM (1539) (1596) sf sf from FRM.refl, hsi⟩) (hP.sub [0, 1] rfl) (hD.sub [0, 1] (by decide) rfl) dX8_nights_22
  · subst e_1
    refine lv_if_eq (tgt := 20) hx hb dX8_nights_5 (by decide) (fun _ => ?_) (fun c9 => absurd (by decide) c9)
    refine lv_ldc (v := (-1000001)) hx hb hown (hts (.constant RX8 48 (-1000001)) (List.mem_of_getElem? (i := 2) rfl)) dX8_nights_20 ?_
    exact wr_i (v := (-1000001)) hx hb hr hlocks hS sf (by exact ⟨show FRM (1539) (1596) sf sf from FRM.refl, hsi⟩) (hP.sub [0, 1] rfl) (hD.sub [0, 1] (by decide) rfl) dX8_nights_22
set_option maxHeartbeats 4000000 in
set_option maxRecDepth 100000 in
theorem f_X8_freezesOf (l : Launch) (D : va_G) (cI cB cQ : ClassId) (sz : Nat) (h : Nat) (sl : Nat) (zs : Nat) (ln : Nat) (ir : Nat) (tk : Nat) (tb : Nat) (tr : Nat) (fz : Nat) (na : Int32) (su : Int32) (le : Int32) (fu : Int32) (ap : Int32) (pp : Int32) (tc : Int32) (nm : Int32) (v : Int32) (n : Int32) (sf : Nat → Int32) (v0 : Int) (hsi : SI sf v0) (h_v : 0 ≤ v.toInt ∧ v.toInt ≤ 7) (h_n : 0 ≤ n.toInt ∧ n.toInt ≤ 100) : mi l yX8_freezesOf wsX8_freezesOf ({ frames := 5, cells := 0, slots := 0, locals := 122 }) D cI cB cQ [.ref h, .int v, .int n] sz [(h, .inr (7, [.ref sl, .int na, .ref zs, .ref ln, .ref ir, .ref tk, .int su, .int le, .ref tb, .int fu, .int ap, .int pp, .ref tr, .int tc, .ref fz, .int nm])), (sl, .inl (cI, 1653, .inl sf))] (fun (r : Int32) (u : (Nat → Int32)) => (FRM (1539) (1596) sf u) ∧ (SI u v0)) (fun u => [(h, .inr (7, [.ref sl, .int na, .ref zs, .ref ln, .ref ir, .ref tk, .int su, .int le, .ref tb, .int fu, .int ap, .int pp, .ref tr, .int tc, .ref fz, .int nm])), (sl, .inl (cI, 1653, .inl u))]) 0 0 := by
  refine wm_i (cc := cX8_freezesOf) (maxL := 4) (ret := (some .int)) (by decide) rfl (Nat.le_of_ble_eq_true rfl) ?_
  intro p e s m below meth c A ls hx hb hr hml hown hts hlocks hin hP hK hD hN hA hl hS
  have hown : s.vm.findClass RX8 = some m.cls := hown
  have hl : lv_has ls 4 [(0, .ref h), (1, .int v), (2, .int n)] := hl
  change W p l e ({ frames := 5, cells := 0, slots := 0, locals := 122 }) s m ([.ref h, .int v, .int n] : List Value).toArray below meth c s.heap [] 0 0 (MQ below (va_Qi (fun (r : Int32) (u : (Nat → Int32)) => (FRM (1539) (1596) sf u) ∧ (SI u v0)) (fun u t => wb D A ((fun u => [(h, .inr (7, [.ref sl, .int na, .ref zs, .ref ln, .ref ir, .ref tk, .int su, .int le, .ref tb, .int fu, .int ap, .int pp, .ref tr, .int tc, .ref fz, .int nm])), (sl, .inl (cI, 1653, .inl u))]) u) t) A) ([.ref h, .int v, .int n] : List Value).toArray s 0 0 A) (F0 m 0 ls [])
  refine lv_aload_n hx hb dX8_freezesOf_0 rfl (lv_at hl 0 rfl) ?_
  refine lv_iconst (v := 0) hx hb dX8_freezesOf_1 (by decide) ?_
  refine lv_bipush (v := 27) hx hb dX8_freezesOf_2 (by decide) ?_
  have k_1 := (f_X8_copies l D cI cB cQ s.heap.size h sl zs ln ir tk tb tr fz na su le fu ap pp tc nm 0 27 sf v0 hsi ⟨by decide, by decide⟩ ⟨by decide, by decide⟩ (by have hk0 : (0 : Int32).toInt = 0 := (by decide); have hk1 : (27 : Int32).toInt = 27 := (by decide); omega))
  refine wc_v (WC := [(h, .inr (7, [.ref sl, .int na, .ref zs, .ref ln, .ref ir, .ref tk, .int su, .int le, .ref tb, .int fu, .int ap, .int pp, .ref tr, .int tc, .ref fz, .int nm])), (sl, .inl (cI, 1653, .inl sf))]) (WR := []) (va_runV (As := [.int 0, .int 27]) (rest := []) ⟨hx, hb, hml, hown, hts⟩ k_1 (cwV 2 hts gX8_freezesOf_X8_copies rfl rfl rfl (by decide +kernel) ⟨Nat.le_of_ble_eq_true rfl, Nat.le_of_ble_eq_true rfl⟩) (wp_V hP hK hD hN [0, 1] (by decide) rfl (ci := 7) rfl rfl) rfl rfl hl.1 rfl (lv_room (Nat.le_of_ble_eq_true rfl)) dX8_freezesOf_4 ⟨Nat.le_of_ble_eq_true rfl, Nat.le_of_ble_eq_true rfl⟩) hP hD hS hA [0, 1] [] rfl rfl (by decide) (by decide) (fun u_1 H locs hw_1 hP hD hS => ?_)
  clear k_1
  have hP : va_P D kl [(h, .inr (7, [.ref sl, .int na, .ref zs, .ref ln, .ref ir, .ref tk, .int su, .int le, .ref tb, .int fu, .int ap, .int pp, .ref tr, .int tc, .ref fz, .int nm])), (sl, .inl (cI, 1653, .inl u_1))] H := hP
  have hD : va_D A [(h, .inr (7, [.ref sl, .int na, .ref zs, .ref ln, .ref ir, .ref tk, .int su, .int le, .ref tb, .int fu, .int ap, .int pp, .ref tr, .int tc, .ref fz, .int nm])), (sl, .inl (cI, 1653, .inl u_1))] := hD
  obtain ⟨c1_0, c1_1, c1_2⟩ := hw_1
  have c1_0 : ∀ q : Nat, q < 57 → u_1 (57 * (27 : Int).toNat + q) = sf (57 * (0 : Int).toNat + q) := c1_0
  have c1_1 : FRM ((57 * (27 : Int))) ((57 * (27 : Int) + 57)) sf u_1 := c1_1
  have c1_2 : SI u_1 v0 := c1_2
  have hf_1 : FRM (1539) (1596) sf u_1 := FRM.trans FRM.refl (FRM.sub c1_1 (by omega) (by omega))
  refine lv_iconst (v := 0) hx hb dX8_freezesOf_7 (by decide) ?_
  refine lv_istore_n (lv' := [(3, .int 0), (0, .ref h), (1, .int v), (2, .int n)]) hx hb dX8_freezesOf_8 rfl hl (by decide) rfl (fun ls hl => ?_)
  have hL9 : ∀ (nf : Nat) (t3_c9 : Int32) (g0_c9 : Nat → Int32) (H : Heap) (locs : List Loc) (ls : Array Slot), (0 ≤ t3_c9.toInt ∧ t3_c9.toInt ≤ 100) → (SI g0_c9 v0) → (FRM (1539) (1596) sf g0_c9) → (n.toInt - t3_c9.toInt).toNat < nf → va_P D kl [(h, .inr (7, [.ref sl, .int na, .ref zs, .ref ln, .ref ir, .ref tk, .int su, .int le, .ref tb, .int fu, .int ap, .int pp, .ref tr, .int tc, .ref fz, .int nm])), (sl, .inl (cI, 1653, .inl g0_c9))] H → va_D A [(h, .inr (7, [.ref sl, .int na, .ref zs, .ref ln, .ref ir, .ref tk, .int su, .int le, .ref tb, .int fu, .int ap, .int pp, .ref tr, .int tc, .ref fz, .int nm])), (sl, .inl (cI, 1653, .inl g0_c9))] → va_S A s.heap H locs → lv_has ls 4 [(3, .int t3_c9), (0, .ref h), (1, .int v), (2, .int n)] → W p l e ({ frames := 5, cells := 0, slots := 0, locals := 122 }) s m ([.ref h, .int v, .int n] : List Value).toArray below meth c H locs 0 0 (MQ below (va_Qi (fun (r : Int32) (u : (Nat → Int32)) => (FRM (1539) (1596) sf u) ∧ (SI u v0)) (fun u t => wb D A ((fun u => [(h, .inr (7, [.ref sl, .int na, .ref zs, .ref ln, .ref ir, .ref tk, .int su, .int le, .ref tb, .int fu, .int ap, .int pp, .ref tr, .int tc, .ref fz, .int nm])), (sl, .inl (cI, 1653, .inl u))]) u) t) A) ([.ref h, .int v, .int n] : List Value).toArray s 0 0 A) (F0 m 9 ls []) := by
    intro nf
    induction nf with
    | zero =>
      intro t3_c9 g0_c9 H locs ls i_t3_c9 ha_g0_c9 hf_c9 hm
      exact absurd hm (Nat.not_lt_zero _)
    | succ nf ih9 =>
      intro t3_c9 g0_c9 H locs ls i_t3_c9 ha_g0_c9 hf_c9 hm9 hP hD hS hl
      refine lv_iload_n hx hb dX8_freezesOf_9 rfl (lv_at hl 0 rfl) ?_
      refine lv_iload_n hx hb dX8_freezesOf_10 rfl (lv_at hl 3 rfl) ?_
      refine lv_icmp_ge (tgt := 42) hx hb dX8_freezesOf_11 (by decide) (fun c_2 => ?_) (fun c_2 => ?_)
      · have f_2 : n.toInt ≤ t3_c9.toInt := zi_le c_2
        refine lv_ldc (v := (-1000000)) hx hb hown (hts (.constant RX8 99 (-1000000)) (List.mem_of_getElem? (i := 2) rfl)) dX8_freezesOf_42 ?_
        exact wr_i (v := (-1000000)) hx hb hr hlocks hS g0_c9 (by exact ⟨show FRM (1539) (1596) sf g0_c9 from hf_c9, ha_g0_c9⟩) (hP.sub [0, 1] rfl) (hD.sub [0, 1] (by decide) rfl) dX8_freezesOf_44
      · have f_2 : ¬ n.toInt ≤ t3_c9.toInt := zi_nle c_2
        refine lv_aload_n hx hb dX8_freezesOf_14 rfl (lv_at hl 1 rfl) ?_
        refine lv_bipush (v := 27) hx hb dX8_freezesOf_15 (by decide) ?_
        refine lv_iconst (v := (-1)) hx hb dX8_freezesOf_17 (by decide) ?_
        have k_3 := (f_X8_day l D cI cB cQ H.size h sl zs ln ir tk tb tr fz na su le fu ap pp tc nm 27 (-1) g0_c9 v0 ha_g0_c9 ⟨by decide, by decide⟩)
        refine wc_v (WC := [(h, .inr (7, [.ref sl, .int na, .ref zs, .ref ln, .ref ir, .ref tk, .int su, .int le, .ref tb, .int fu, .int ap, .int pp, .ref tr, .int tc, .ref fz, .int nm])), (sl, .inl (cI, 1653, .inl g0_c9))]) (WR := []) (va_runV (As := [.int 27, .int (-1)]) (rest := []) ⟨hx, hb, hml, hown, hts⟩ k_3 (cwV 2 hts gX8_freezesOf_X8_day rfl rfl rfl (by decide +kernel) ⟨Nat.le_of_ble_eq_true rfl, Nat.le_of_ble_eq_true rfl⟩) (wp_V hP hK hD hN [0, 1] (by decide) rfl (ci := 7) rfl rfl) rfl rfl hl.1 rfl (lv_room (Nat.le_of_ble_eq_true rfl)) dX8_freezesOf_18 ⟨Nat.le_of_ble_eq_true rfl, Nat.le_of_ble_eq_true rfl⟩) hP hD hS hA [0, 1] [] rfl rfl (by decide) (by decide) (fun u_3 H locs hw_3 hP hD hS => ?_)
        clear k_3
        have hP : va_P D kl [(h, .inr (7, [.ref sl, .int na, .ref zs, .ref ln, .ref ir, .ref tk, .int su, .int le, .ref tb, .int fu, .int ap, .int pp, .ref tr, .int tc, .ref fz, .int nm])), (sl, .inl (cI, 1653, .inl u_3))] H := hP
        have hD : va_D A [(h, .inr (7, [.ref sl, .int na, .ref zs, .ref ln, .ref ir, .ref tk, .int su, .int le, .ref tb, .int fu, .int ap, .int pp, .ref tr, .int tc, .ref fz, .int nm])), (sl, .inl (cI, 1653, .inl u_3))] := hD
        obtain ⟨c3_0, c3_1⟩ := hw_3
        have c3_0 : FRM (57 * (27 : Int) + 31) (57 * (27 : Int) + 57) g0_c9 u_3 := c3_0
        have c3_1 : SI u_3 v0 := c3_1
        have hf_3 : FRM (1539) (1596) sf u_3 := FRM.trans hf_c9 (FRM.sub c3_0 (by omega) (by omega))
        refine lv_aload_n hx hb dX8_freezesOf_21 rfl (lv_at hl 1 rfl) ?_
        refine va_get (D := D) (ci := 7) (v := .ref sl) (C := RX8) (T := TX8) (N := 16) hx hb hts (fun _ h => List.mem_cons_of_mem _ (List.mem_append_right _ h)) hown hK hP 0 rfl rfl 0 (by decide) (hts (.fieldLink RX8 7 "WinterWalkModel" "slot" "[I") (List.mem_of_getElem? (i := 1) rfl)) (fun _ h9 => h9) rfl dX8_freezesOf_22 ?_
        refine lv_sipush (v := 1571) hx hb dX8_freezesOf_25 (by decide) ?_
        refine lv_iload_n hx hb dX8_freezesOf_28 rfl (lv_at hl 2 rfl) ?_
        refine lv_iadd hx hb dX8_freezesOf_29 ?_
        refine lv_topi (fun x_4 ex_4 => ?_)
        have e_4 : x_4.toInt = 1571 + v.toInt := by rw [ex_4]; exact zi_add (by decide) (rfl) (by omega) (by omega)
        clear ex_4
        refine va_iald hx hb hK hP 1 0 rfl rfl (zi_in (by omega) (by omega)) dX8_freezesOf_30 ?_
        refine lv_topi (fun x_5 ex_5 => ?_)
        clear ex_5
        refine lv_if_le (tgt := 36) hx hb dX8_freezesOf_31 (by decide) (fun c_6 => ?_) (fun c_6 => ?_)
        · have f_6 : x_5.toInt ≤ 0 := zi_le c_6
          obtain ⟨x_7, ex_7⟩ : ∃ y : Int32, y = t3_c9 + Int32.ofInt 1 := ⟨_, rfl⟩
          refine lv_iinc (v := x_7) (lv' := [(3, .int x_7), (0, .ref h), (1, .int v), (2, .int n)]) hx hb dX8_freezesOf_36 hl (k := 0) rfl ex_7.symm (by decide) rfl (fun ls hl => ?_)
          have ex_7 : x_7 = t3_c9 + 1 := ex_7
          have e_7 : x_7.toInt = t3_c9.toInt + 1 := by rw [ex_7]; exact zi_add (rfl) (by decide) (by omega) (by omega)
          clear ex_7
          refine lv_goto (tgt := 9) hx hb dX8_freezesOf_39 (by decide) ?_
          exact ih9 x_7 u_3 _ _ _ (show 0 ≤ x_7.toInt ∧ x_7.toInt ≤ 100 from by omega) c3_1 hf_3 (by omega) (hP.sub [0, 1] rfl) (hD.sub [0, 1] (by decide) rfl) hS (lv_sub hl [0, 1, 2, 3] rfl)
        · have f_6 : ¬ x_5.toInt ≤ 0 := zi_nle c_6
          refine lv_iload_n hx hb dX8_freezesOf_34 rfl (lv_at hl 0 rfl) ?_
          exact wr_i (v := t3_c9) hx hb hr hlocks hS u_3 (by exact ⟨show FRM (1539) (1596) sf u_3 from hf_3, c3_1⟩) (hP.sub [0, 1] rfl) (hD.sub [0, 1] (by decide) rfl) dX8_freezesOf_35
  exact hL9 (((n.toInt - (0 : Int32).toInt).toNat) + 1) 0 u_1 _ _ _ (show 0 ≤ 0 ∧ 0 ≤ 100 from by omega) c1_2 hf_1 (Nat.lt_succ_self _) (hP.sub [0, 1] rfl) (hD.sub [0, 1] (by decide) rfl) hS (lv_sub hl [0, 1, 2, 3] rfl)
set_option maxHeartbeats 4000000 in
set_option maxRecDepth 100000 in
theorem f_X8_freezes (l : Launch) (D : va_G) (cI cB cQ : ClassId) (sz : Nat) (h : Nat) (sl : Nat) (zs : Nat) (ln : Nat) (ir : Nat) (tk : Nat) (tb : Nat) (tr : Nat) (fz : Nat) (na : Int32) (su : Int32) (le : Int32) (fu : Int32) (ap : Int32) (pp : Int32) (tc : Int32) (nm : Int32) (v : Int32) (n : Int32) (sf : Nat → Int32) (v0 : Int) (hsi : SI sf v0) : mi l yX8_freezes wsX8_freezes ({ frames := 6, cells := 0, slots := 0, locals := 145 }) D cI cB cQ [.ref h, .int v, .int n] sz [(h, .inr (7, [.ref sl, .int na, .ref zs, .ref ln, .ref ir, .ref tk, .int su, .int le, .ref tb, .int fu, .int ap, .int pp, .ref tr, .int tc, .ref fz, .int nm])), (sl, .inl (cI, 1653, .inl sf))] (fun (r : Int32) (u : (Nat → Int32)) => (FRM (1539) (1596) sf u) ∧ (SI u v0)) (fun u => [(h, .inr (7, [.ref sl, .int na, .ref zs, .ref ln, .ref ir, .ref tk, .int su, .int le, .ref tb, .int fu, .int ap, .int pp, .ref tr, .int tc, .ref fz, .int nm])), (sl, .inl (cI, 1653, .inl u))]) 0 0 := by
  refine wm_i (cc := cX8_freezes) (maxL := 3) (ret := (some .int)) (by decide) rfl (Nat.le_of_ble_eq_true rfl) ?_
  intro p e s m below meth c A ls hx hb hr hml hown hts hlocks hin hP hK hD hN hA hl hS
  have hown : s.vm.findClass RX8 = some m.cls := hown
  have hl : lv_has ls 3 [(0, .ref h), (1, .int v), (2, .int n)] := hl
  change W p l e ({ frames := 6, cells := 0, slots := 0, locals := 145 }) s m ([.ref h, .int v, .int n] : List Value).toArray below meth c s.heap [] 0 0 (MQ below (va_Qi (fun (r : Int32) (u : (Nat → Int32)) => (FRM (1539) (1596) sf u) ∧ (SI u v0)) (fun u t => wb D A ((fun u => [(h, .inr (7, [.ref sl, .int na, .ref zs, .ref ln, .ref ir, .ref tk, .int su, .int le, .ref tb, .int fu, .int ap, .int pp, .ref tr, .int tc, .ref fz, .int nm])), (sl, .inl (cI, 1653, .inl u))]) u) t) A) ([.ref h, .int v, .int n] : List Value).toArray s 0 0 A) (F0 m 0 ls [])
  refine lv_aload_n hx hb dX8_freezes_0 rfl (lv_at hl 0 rfl) ?_
  refine lv_iload_n hx hb dX8_freezes_1 rfl (lv_at hl 1 rfl) ?_
  have k_1 := (g_X8_isVillageThere l D cI cB cQ s.heap.size h sl zs ln ir tk tb tr fz na su le fu ap pp tc nm v sf v0 hsi)
  refine wc_i (WC := [(h, .inr (7, [.ref sl, .int na, .ref zs, .ref ln, .ref ir, .ref tk, .int su, .int le, .ref tb, .int fu, .int ap, .int pp, .ref tr, .int tc, .ref fz, .int nm])), (sl, .inl (cI, 1653, .inl sf))]) (WR := []) (va_runV (As := [.int v]) (rest := []) ⟨hx, hb, hml, hown, hts⟩ k_1 (cwV 1 hts gX8_freezes_X8_isVillageThere rfl rfl rfl (by decide +kernel) ⟨Nat.le_of_ble_eq_true rfl, Nat.le_of_ble_eq_true rfl⟩) (wp_V hP hK hD hN [0, 1] (by decide) rfl (ci := 7) rfl rfl) rfl rfl hl.1 rfl (lv_room (Nat.le_of_ble_eq_true rfl)) dX8_freezes_2 ⟨Nat.le_of_ble_eq_true rfl, Nat.le_of_ble_eq_true rfl⟩) hP hD hS hA [0, 1] [] rfl rfl (by decide) (by decide) (fun r_1 u_1 H locs hw_1 hP hD hS => ?_)
  clear k_1
  have hP : va_P D kl [(h, .inr (7, [.ref sl, .int na, .ref zs, .ref ln, .ref ir, .ref tk, .int su, .int le, .ref tb, .int fu, .int ap, .int pp, .ref tr, .int tc, .ref fz, .int nm])), (sl, .inl (cI, 1653, .inl sf))] H := hP
  have hD : va_D A [(h, .inr (7, [.ref sl, .int na, .ref zs, .ref ln, .ref ir, .ref tk, .int su, .int le, .ref tb, .int fu, .int ap, .int pp, .ref tr, .int tc, .ref fz, .int nm])), (sl, .inl (cI, 1653, .inl sf))] := hD
  have c1_0 := hw_1
  rcases c1_0 with ⟨e_1, f_1⟩ | e_1
  · subst e_1
    have f_1 : 0 ≤ v.toInt ∧ v.toInt ≤ 7 ∧ v.toInt < v0 := f_1
    refine lv_if_eq (tgt := 29) hx hb dX8_freezes_5 (by decide) (fun c9 => absurd c9 (by decide)) (fun _ => ?_)
    refine lv_iload_n hx hb dX8_freezes_8 rfl (lv_at hl 2 rfl) ?_
    refine lv_i2l (v := (n.toInt64)) hx hb dX8_freezes_9 rfl ?_
    refine lv_lconst (v := 1) hx hb dX8_freezes_10 (by decide) ?_
    refine lv_ldc2 (v := 100) hx hb hown (hts (.constantLong RX8 160 (100)) (List.mem_of_getElem? (i := 1) rfl)) dX8_freezes_11 ?_
    have k_2 := (g_X8_in l D cI cB cQ H.size (n.toInt64) 1 100)
    refine wc_i (WC := []) (WR := [(h, .inr (7, [.ref sl, .int na, .ref zs, .ref ln, .ref ir, .ref tk, .int su, .int le, .ref tb, .int fu, .int ap, .int pp, .ref tr, .int tc, .ref fz, .int nm])), (sl, .inl (cI, 1653, .inl sf))]) (va_runS (As := [.long (n.toInt64), .long 1, .long 100]) (rest := []) ⟨hx, hb, hml, hown, hts⟩ k_2 (va_cwS 3 hts gX8_freezes_X8_in rfl rfl rfl (by decide +kernel) ⟨Nat.le_of_ble_eq_true rfl, Nat.le_of_ble_eq_true rfl⟩) (wp_S hP hK hD hN [] (by decide) rfl) rfl rfl hl.1 rfl (lv_room (Nat.le_of_ble_eq_true rfl)) dX8_freezes_14 ⟨Nat.le_of_ble_eq_true rfl, Nat.le_of_ble_eq_true rfl⟩) hP hD hS hA [] [0, 1] rfl rfl (by decide) (by decide) (fun r_2 u_2 H locs hw_2 hP hD hS => ?_)
    clear k_2
    have hP : va_P D kl [(h, .inr (7, [.ref sl, .int na, .ref zs, .ref ln, .ref ir, .ref tk, .int su, .int le, .ref tb, .int fu, .int ap, .int pp, .ref tr, .int tc, .ref fz, .int nm])), (sl, .inl (cI, 1653, .inl sf))] H := hP
    have hD : va_D A [(h, .inr (7, [.ref sl, .int na, .ref zs, .ref ln, .ref ir, .ref tk, .int su, .int le, .ref tb, .int fu, .int ap, .int pp, .ref tr, .int tc, .ref fz, .int nm])), (sl, .inl (cI, 1653, .inl sf))] := hD
    have c2_0 := hw_2
    rcases c2_0 with ⟨e_2, f_2⟩ | ⟨e_2, f_2⟩
    · subst e_2
      have f_2 : (1 : Int) ≤ n.toInt ∧ n.toInt ≤ (100 : Int) := by
        have h8 := f_2
        try simp only [zl_of] at h8
        exact h8
      refine lv_if_eq (tgt := 29) hx hb dX8_freezes_17 (by decide) (fun c9 => absurd c9 (by decide)) (fun _ => ?_)
      refine lv_aload_n hx hb dX8_freezes_20 rfl (lv_at hl 0 rfl) ?_
      refine lv_iload_n hx hb dX8_freezes_21 rfl (lv_at hl 1 rfl) ?_
      refine lv_iload_n hx hb dX8_freezes_22 rfl (lv_at hl 2 rfl) ?_
      have k_3 := (f_X8_freezesOf l D cI cB cQ H.size h sl zs ln ir tk tb tr fz na su le fu ap pp tc nm v n sf v0 hsi (by omega) (by omega))
      refine wc_i (WC := [(h, .inr (7, [.ref sl, .int na, .ref zs, .ref ln, .ref ir, .ref tk, .int su, .int le, .ref tb, .int fu, .int ap, .int pp, .ref tr, .int tc, .ref fz, .int nm])), (sl, .inl (cI, 1653, .inl sf))]) (WR := []) (va_runV (As := [.int v, .int n]) (rest := []) ⟨hx, hb, hml, hown, hts⟩ k_3 (cwV 2 hts gX8_freezes_X8_freezesOf rfl rfl rfl (by decide +kernel) ⟨Nat.le_of_ble_eq_true rfl, Nat.le_of_ble_eq_true rfl⟩) (wp_V hP hK hD hN [0, 1] (by decide) rfl (ci := 7) rfl rfl) rfl rfl hl.1 rfl (lv_room (Nat.le_of_ble_eq_true rfl)) dX8_freezes_23 ⟨Nat.le_of_ble_eq_true rfl, Nat.le_of_ble_eq_true rfl⟩) hP hD hS hA [0, 1] [] rfl rfl (by decide) (by decide) (fun r_3 u_3 H locs hw_3 hP hD hS => ?_)
      clear k_3
      have hP : va_P D kl [(h, .inr (7, [.ref sl, .int na, .ref zs, .ref ln, .ref ir, .ref tk, .int su, .int le, .ref tb, .int fu, .int ap, .int pp, .ref tr, .int tc, .ref fz, .int nm])), (sl, .inl (cI, 1653, .inl u_3))] H := hP
      have hD : va_D A [(h, .inr (7, [.ref sl, .int na, .ref zs, .ref ln, .ref ir, .ref tk, .int su, .int le, .ref tb, .int fu, .int ap, .int pp, .ref tr, .int tc, .ref fz, .int nm])), (sl, .inl (cI, 1653, .inl u_3))] := hD
      obtain ⟨c3_0, c3_1⟩ := hw_3
      have c3_0 : FRM (1539) (1596) sf u_3 := c3_0
      have c3_1 : SI u_3 v0 := c3_1
      have hf_3 : FRM (1539) (1596) sf u_3 := FRM.trans FRM.refl (FRM.sub c3_0 (by omega) (by omega))
      refine lv_goto (tgt := 31) hx hb dX8_freezes_26 (by decide) ?_
      exact wr_i (v := r_3) hx hb hr hlocks hS u_3 (by exact ⟨show FRM (1539) (1596) sf u_3 from hf_3, c3_1⟩) (hP.sub [0, 1] rfl) (hD.sub [0, 1] (by decide) rfl) dX8_freezes_31
    · subst e_2
      have f_2 : ¬ ((1 : Int) ≤ n.toInt ∧ n.toInt ≤ (100 : Int)) := by
        have h8 := f_2
        try simp only [zl_of] at h8
        exact h8
      refine lv_if_eq (tgt := 29) hx hb dX8_freezes_17 (by decide) (fun _ => ?_) (fun c9 => absurd (by decide) c9)
      refine lv_ldc (v := (-1000001)) hx hb hown (hts (.constant RX8 48 (-1000001)) (List.mem_of_getElem? (i := 2) rfl)) dX8_freezes_29 ?_
      exact wr_i (v := (-1000001)) hx hb hr hlocks hS sf (by exact ⟨show FRM (1539) (1596) sf sf from FRM.refl, hsi⟩) (hP.sub [0, 1] rfl) (hD.sub [0, 1] (by decide) rfl) dX8_freezes_31
  · subst e_1
    refine lv_if_eq (tgt := 29) hx hb dX8_freezes_5 (by decide) (fun _ => ?_) (fun c9 => absurd (by decide) c9)
    refine lv_ldc (v := (-1000001)) hx hb hown (hts (.constant RX8 48 (-1000001)) (List.mem_of_getElem? (i := 2) rfl)) dX8_freezes_29 ?_
    exact wr_i (v := (-1000001)) hx hb hr hlocks hS sf (by exact ⟨show FRM (1539) (1596) sf sf from FRM.refl, hsi⟩) (hP.sub [0, 1] rfl) (hD.sub [0, 1] (by decide) rfl) dX8_freezes_31
set_option maxHeartbeats 4000000 in
set_option maxRecDepth 100000 in
theorem f_X8_warn (l : Launch) (D : va_G) (cI cB cQ : ClassId) (sz : Nat) (h : Nat) (sl : Nat) (zs : Nat) (ln : Nat) (ir : Nat) (tk : Nat) (tb : Nat) (tr : Nat) (fz : Nat) (na : Int32) (su : Int32) (le : Int32) (fu : Int32) (ap : Int32) (pp : Int32) (tc : Int32) (nm : Int32) (k : Int32) (sf : Nat → Int32) (fzf : Nat → Int32) (v0 : Int) (hsi : SI sf v0) : mi l yX8_warn wsX8_warn ({ frames := 6, cells := 0, slots := 0, locals := 145 }) D cI cB cQ [.ref h, .int k] sz [(h, .inr (7, [.ref sl, .int na, .ref zs, .ref ln, .ref ir, .ref tk, .int su, .int le, .ref tb, .int fu, .int ap, .int pp, .ref tr, .int tc, .ref fz, .int nm])), (sl, .inl (cI, 1653, .inl sf)), (fz, .inl (cI, 8, .inl fzf))] (fun (r : Int32) (u : (Nat → Int32) × (Nat → Int32)) => (FRM (1539) (1596) sf u.1) ∧ (SI u.1 v0)) (fun u => [(h, .inr (7, [.ref sl, .int na, .ref zs, .ref ln, .ref ir, .ref tk, .int su, .int le, .ref tb, .int fu, .int ap, .int pp, .ref tr, .int tc, .ref fz, .int nm])), (sl, .inl (cI, 1653, .inl u.1)), (fz, .inl (cI, 8, .inl u.2))]) 0 0 := by
  refine wm_i (cc := cX8_warn) (maxL := 6) (ret := (some .int)) (by decide) rfl (Nat.le_of_ble_eq_true rfl) ?_
  intro p e s m below meth c A ls hx hb hr hml hown hts hlocks hin hP hK hD hN hA hl hS
  have hown : s.vm.findClass RX8 = some m.cls := hown
  have hl : lv_has ls 6 [(0, .ref h), (1, .int k)] := hl
  change W p l e ({ frames := 6, cells := 0, slots := 0, locals := 145 }) s m ([.ref h, .int k] : List Value).toArray below meth c s.heap [] 0 0 (MQ below (va_Qi (fun (r : Int32) (u : (Nat → Int32) × (Nat → Int32)) => (FRM (1539) (1596) sf u.1) ∧ (SI u.1 v0)) (fun u t => wb D A ((fun u => [(h, .inr (7, [.ref sl, .int na, .ref zs, .ref ln, .ref ir, .ref tk, .int su, .int le, .ref tb, .int fu, .int ap, .int pp, .ref tr, .int tc, .ref fz, .int nm])), (sl, .inl (cI, 1653, .inl u.1)), (fz, .inl (cI, 8, .inl u.2))]) u) t) A) ([.ref h, .int k] : List Value).toArray s 0 0 A) (F0 m 0 ls [])
  refine lv_aload_n hx hb dX8_warn_0 rfl (lv_at hl 0 rfl) ?_
  refine va_get (D := D) (ci := 7) (v := .ref sl) (C := RX8) (T := TX8) (N := 16) hx hb hts (fun _ h => List.mem_cons_of_mem _ (List.mem_append_right _ h)) hown hK hP 0 rfl rfl 0 (by decide) (hts (.fieldLink RX8 7 "WinterWalkModel" "slot" "[I") (List.mem_of_getElem? (i := 1) rfl)) (fun _ h9 => h9) rfl dX8_warn_1 ?_
  refine lv_iconst (v := 1) hx hb dX8_warn_4 (by decide) ?_
  refine va_iald hx hb hK hP 1 0 rfl rfl (zi_in (by decide) (by decide)) dX8_warn_5 ?_
  refine lv_topi (fun x_1 ex_1 => ?_)
  have f_1 : 0 ≤ x_1.toInt ∧ x_1.toInt ≤ 8 := by rw [ex_1]; exact si_v hsi (s := 0) (by decide) (by omega)
  have g_1 : x_1.toInt = v0 := by rw [ex_1]; exact hsi.2
  refine lv_if_ne (tgt := 12) hx hb dX8_warn_6 (by decide) (fun c_2 => ?_) (fun c_2 => ?_)
  · have f_2 : ¬ x_1.toInt = 0 := zi_ne c_2
    refine lv_iload_n hx hb dX8_warn_12 rfl (lv_at hl 1 rfl) ?_
    refine lv_i2l (v := (k.toInt64)) hx hb dX8_warn_13 rfl ?_
    refine lv_ldc2 (v := (-1)) hx hb hown (hts (.constantLong RX8 172 (-1)) (List.mem_of_getElem? (i := 3) rfl)) dX8_warn_14 ?_
    refine lv_ldc2 (v := 7) hx hb hown (hts (.constantLong RX8 40 (7)) (List.mem_of_getElem? (i := 4) rfl)) dX8_warn_17 ?_
    have k_3 := (g_X8_in l D cI cB cQ s.heap.size (k.toInt64) (-1) 7)
    refine wc_i (WC := []) (WR := [(h, .inr (7, [.ref sl, .int na, .ref zs, .ref ln, .ref ir, .ref tk, .int su, .int le, .ref tb, .int fu, .int ap, .int pp, .ref tr, .int tc, .ref fz, .int nm])), (sl, .inl (cI, 1653, .inl sf)), (fz, .inl (cI, 8, .inl fzf))]) (va_runS (As := [.long (k.toInt64), .long (-1), .long 7]) (rest := []) ⟨hx, hb, hml, hown, hts⟩ k_3 (va_cwS 3 hts gX8_warn_X8_in rfl rfl rfl (by decide +kernel) ⟨Nat.le_of_ble_eq_true rfl, Nat.le_of_ble_eq_true rfl⟩) (wp_S hP hK hD hN [] (by decide) rfl) rfl rfl hl.1 rfl (lv_room (Nat.le_of_ble_eq_true rfl)) dX8_warn_20 ⟨Nat.le_of_ble_eq_true rfl, Nat.le_of_ble_eq_true rfl⟩) hP hD hS hA [] [0, 1, 2] rfl rfl (by decide) (by decide) (fun r_3 u_3 H locs hw_3 hP hD hS => ?_)
    clear k_3
    have hP : va_P D kl [(h, .inr (7, [.ref sl, .int na, .ref zs, .ref ln, .ref ir, .ref tk, .int su, .int le, .ref tb, .int fu, .int ap, .int pp, .ref tr, .int tc, .ref fz, .int nm])), (sl, .inl (cI, 1653, .inl sf)), (fz, .inl (cI, 8, .inl fzf))] H := hP
    have hD : va_D A [(h, .inr (7, [.ref sl, .int na, .ref zs, .ref ln, .ref ir, .ref tk, .int su, .int le, .ref tb, .int fu, .int ap, .int pp, .ref tr, .int tc, .ref fz, .int nm])), (sl, .inl (cI, 1653, .inl sf)), (fz, .inl (cI, 8, .inl fzf))] := hD
    have c3_0 := hw_3
    rcases c3_0 with ⟨e_3, f_3⟩ | ⟨e_3, f_3⟩
    · subst e_3
      have f_3 : (-1 : Int) ≤ k.toInt ∧ k.toInt ≤ (7 : Int) := by
        have h8 := f_3
        try simp only [zl_of] at h8
        exact h8
      refine lv_if_ne (tgt := 29) hx hb dX8_warn_23 (by decide) (fun _ => ?_) (fun c9 => absurd c9 (by decide))
      refine lv_iconst (v := 0) hx hb dX8_warn_29 (by decide) ?_
      refine lv_istore_n (lv' := [(2, .int 0), (0, .ref h), (1, .int k)]) hx hb dX8_warn_30 rfl hl (by decide) rfl (fun ls hl => ?_)
      refine lv_iconst (v := 0) hx hb dX8_warn_31 (by decide) ?_
      refine lv_istore_n (lv' := [(3, .int 0), (2, .int 0), (0, .ref h), (1, .int k)]) hx hb dX8_warn_32 rfl hl (by decide) rfl (fun ls hl => ?_)
      have hL33 : ∀ (nf : Nat) (t3_c33 : Int32) (t2_c33 : Int32) (g0_c33 : Nat → Int32) (g1_c33 : Nat → Int32) (H : Heap) (locs : List Loc) (ls : Array Slot), (0 ≤ t3_c33.toInt ∧ t3_c33.toInt ≤ 8) → (SI g0_c33 v0) → (FRM (1539) (1596) sf g0_c33) → (8 - t3_c33.toInt).toNat < nf → va_P D kl [(h, .inr (7, [.ref sl, .int na, .ref zs, .ref ln, .ref ir, .ref tk, .int su, .int le, .ref tb, .int fu, .int ap, .int pp, .ref tr, .int tc, .ref fz, .int nm])), (sl, .inl (cI, 1653, .inl g0_c33)), (fz, .inl (cI, 8, .inl g1_c33))] H → va_D A [(h, .inr (7, [.ref sl, .int na, .ref zs, .ref ln, .ref ir, .ref tk, .int su, .int le, .ref tb, .int fu, .int ap, .int pp, .ref tr, .int tc, .ref fz, .int nm])), (sl, .inl (cI, 1653, .inl g0_c33)), (fz, .inl (cI, 8, .inl g1_c33))] → va_S A s.heap H locs → lv_has ls 6 [(3, .int t3_c33), (2, .int t2_c33), (0, .ref h), (1, .int k)] → W p l e ({ frames := 6, cells := 0, slots := 0, locals := 145 }) s m ([.ref h, .int k] : List Value).toArray below meth c H locs 0 0 (MQ below (va_Qi (fun (r : Int32) (u : (Nat → Int32) × (Nat → Int32)) => (FRM (1539) (1596) sf u.1) ∧ (SI u.1 v0)) (fun u t => wb D A ((fun u => [(h, .inr (7, [.ref sl, .int na, .ref zs, .ref ln, .ref ir, .ref tk, .int su, .int le, .ref tb, .int fu, .int ap, .int pp, .ref tr, .int tc, .ref fz, .int nm])), (sl, .inl (cI, 1653, .inl u.1)), (fz, .inl (cI, 8, .inl u.2))]) u) t) A) ([.ref h, .int k] : List Value).toArray s 0 0 A) (F0 m 33 ls []) := by
        intro nf
        induction nf with
        | zero =>
          intro t3_c33 t2_c33 g0_c33 g1_c33 H locs ls i_t3_c33 ha_g0_c33 hf_c33 hm
          exact absurd hm (Nat.not_lt_zero _)
        | succ nf ih33 =>
          intro t3_c33 t2_c33 g0_c33 g1_c33 H locs ls i_t3_c33 ha_g0_c33 hf_c33 hm33 hP hD hS hl
          refine lv_iload_n hx hb dX8_warn_33 rfl (lv_at hl 0 rfl) ?_
          refine lv_aload_n hx hb dX8_warn_34 rfl (lv_at hl 2 rfl) ?_
          refine va_get (D := D) (ci := 7) (v := .ref sl) (C := RX8) (T := TX8) (N := 16) hx hb hts (fun _ h => List.mem_cons_of_mem _ (List.mem_append_right _ h)) hown hK hP 0 rfl rfl 0 (by decide) (hts (.fieldLink RX8 7 "WinterWalkModel" "slot" "[I") (List.mem_of_getElem? (i := 1) rfl)) (fun _ h9 => h9) rfl dX8_warn_35 ?_
          refine lv_iconst (v := 1) hx hb dX8_warn_38 (by decide) ?_
          refine va_iald hx hb hK hP 1 0 rfl rfl (zi_in (by decide) (by decide)) dX8_warn_39 ?_
          refine lv_topi (fun x_4 ex_4 => ?_)
          have f_4 : 0 ≤ x_4.toInt ∧ x_4.toInt ≤ 8 := by rw [ex_4]; exact si_v ha_g0_c33 (s := 0) (by decide) (by omega)
          have g_4 : x_4.toInt = v0 := by rw [ex_4]; exact ha_g0_c33.2
          refine lv_icmp_ge (tgt := 79) hx hb dX8_warn_40 (by decide) (fun c_5 => ?_) (fun c_5 => ?_)
          · have f_5 : x_4.toInt ≤ t3_c33.toInt := zi_le c_5
            refine lv_iconst (v := 0) hx hb dX8_warn_79 (by decide) ?_
            refine lv_istore_n (lv' := [(3, .int 0), (2, .int t2_c33), (0, .ref h), (1, .int k)]) hx hb dX8_warn_80 rfl hl (by decide) rfl (fun ls hl => ?_)
            have hL81 : ∀ (nf : Nat) (t3_c81 : Int32) (H : Heap) (locs : List Loc) (ls : Array Slot), (0 ≤ t3_c81.toInt ∧ t3_c81.toInt ≤ 8) → (8 - t3_c81.toInt).toNat < nf → va_P D kl [(h, .inr (7, [.ref sl, .int na, .ref zs, .ref ln, .ref ir, .ref tk, .int su, .int le, .ref tb, .int fu, .int ap, .int pp, .ref tr, .int tc, .ref fz, .int nm])), (sl, .inl (cI, 1653, .inl g0_c33)), (fz, .inl (cI, 8, .inl g1_c33))] H → va_D A [(h, .inr (7, [.ref sl, .int na, .ref zs, .ref ln, .ref ir, .ref tk, .int su, .int le, .ref tb, .int fu, .int ap, .int pp, .ref tr, .int tc, .ref fz, .int nm])), (sl, .inl (cI, 1653, .inl g0_c33)), (fz, .inl (cI, 8, .inl g1_c33))] → va_S A s.heap H locs → lv_has ls 6 [(3, .int t3_c81), (2, .int t2_c33), (0, .ref h), (1, .int k)] → W p l e ({ frames := 6, cells := 0, slots := 0, locals := 145 }) s m ([.ref h, .int k] : List Value).toArray below meth c H locs 0 0 (MQ below (va_Qi (fun (r : Int32) (u : (Nat → Int32) × (Nat → Int32)) => (FRM (1539) (1596) sf u.1) ∧ (SI u.1 v0)) (fun u t => wb D A ((fun u => [(h, .inr (7, [.ref sl, .int na, .ref zs, .ref ln, .ref ir, .ref tk, .int su, .int le, .ref tb, .int fu, .int ap, .int pp, .ref tr, .int tc, .ref fz, .int nm])), (sl, .inl (cI, 1653, .inl u.1)), (fz, .inl (cI, 8, .inl u.2))]) u) t) A) ([.ref h, .int k] : List Value).toArray s 0 0 A) (F0 m 81 ls []) := by
              intro nf
              induction nf with
              | zero =>
                intro t3_c81 H locs ls i_t3_c81 hm
                exact absurd hm (Nat.not_lt_zero _)
              | succ nf ih81 =>
                intro t3_c81 H locs ls i_t3_c81 hm81 hP hD hS hl
                refine lv_iload_n hx hb dX8_warn_81 rfl (lv_at hl 0 rfl) ?_
                refine lv_aload_n hx hb dX8_warn_82 rfl (lv_at hl 2 rfl) ?_
                refine va_get (D := D) (ci := 7) (v := .ref sl) (C := RX8) (T := TX8) (N := 16) hx hb hts (fun _ h => List.mem_cons_of_mem _ (List.mem_append_right _ h)) hown hK hP 0 rfl rfl 0 (by decide) (hts (.fieldLink RX8 7 "WinterWalkModel" "slot" "[I") (List.mem_of_getElem? (i := 1) rfl)) (fun _ h9 => h9) rfl dX8_warn_83 ?_
                refine lv_iconst (v := 1) hx hb dX8_warn_86 (by decide) ?_
                refine va_iald hx hb hK hP 1 0 rfl rfl (zi_in (by decide) (by decide)) dX8_warn_87 ?_
                refine lv_topi (fun x_6 ex_6 => ?_)
                have f_6 : 0 ≤ x_6.toInt ∧ x_6.toInt ≤ 8 := by rw [ex_6]; exact si_v ha_g0_c33 (s := 0) (by decide) (by omega)
                have g_6 : x_6.toInt = v0 := by rw [ex_6]; exact ha_g0_c33.2
                refine lv_icmp_ge (tgt := 199) hx hb dX8_warn_88 (by decide) (fun c_7 => ?_) (fun c_7 => ?_)
                · have f_7 : x_6.toInt ≤ t3_c81.toInt := zi_le c_7
                  refine lv_iload_n hx hb dX8_warn_199 rfl (lv_at hl 3 rfl) ?_
                  refine lv_if_ge (tgt := 207) hx hb dX8_warn_200 (by decide) (fun c_8 => ?_) (fun c_8 => ?_)
                  · have f_8 : 0 ≤ k.toInt := zi_le c_8
                    refine lv_ldc (v := (-1000000)) hx hb hown (hts (.constant RX8 99 (-1000000)) (List.mem_of_getElem? (i := 7) rfl)) dX8_warn_207 ?_
                    exact wr_i (v := (-1000000)) hx hb hr hlocks hS (g0_c33, g1_c33) (by exact ⟨show FRM (1539) (1596) sf g0_c33 from hf_c33, ha_g0_c33⟩) (hP.sub [0, 1, 2] rfl) (hD.sub [0, 1, 2] (by decide) rfl) dX8_warn_209
                  · have f_8 : ¬ 0 ≤ k.toInt := zi_nle c_8
                    refine lv_iload_n hx hb dX8_warn_203 rfl (lv_at hl 1 rfl) ?_
                    refine lv_goto (tgt := 209) hx hb dX8_warn_204 (by decide) ?_
                    exact wr_i (v := t2_c33) hx hb hr hlocks hS (g0_c33, g1_c33) (by exact ⟨show FRM (1539) (1596) sf g0_c33 from hf_c33, ha_g0_c33⟩) (hP.sub [0, 1, 2] rfl) (hD.sub [0, 1, 2] (by decide) rfl) dX8_warn_209
                · have f_7 : ¬ x_6.toInt ≤ t3_c81.toInt := zi_nle c_7
                  refine lv_iload_n hx hb dX8_warn_91 rfl (lv_at hl 3 rfl) ?_
                  refine lv_if_lt (tgt := 199) hx hb dX8_warn_92 (by decide) (fun c_9 => ?_) (fun c_9 => ?_)
                  · have f_9 : k.toInt < 0 := zi_lt c_9
                    refine lv_iload_n hx hb dX8_warn_199 rfl (lv_at hl 3 rfl) ?_
                    refine lv_if_ge (tgt := 207) hx hb dX8_warn_200 (by decide) (fun c_10 => ?_) (fun c_10 => ?_)
                    · have f_10 : 0 ≤ k.toInt := zi_le c_10
                      exfalso; omega
                    · have f_10 : ¬ 0 ≤ k.toInt := zi_nle c_10
                      refine lv_iload_n hx hb dX8_warn_203 rfl (lv_at hl 1 rfl) ?_
                      refine lv_goto (tgt := 209) hx hb dX8_warn_204 (by decide) ?_
                      exact wr_i (v := t2_c33) hx hb hr hlocks hS (g0_c33, g1_c33) (by exact ⟨show FRM (1539) (1596) sf g0_c33 from hf_c33, ha_g0_c33⟩) (hP.sub [0, 1, 2] rfl) (hD.sub [0, 1, 2] (by decide) rfl) dX8_warn_209
                  · have f_9 : ¬ k.toInt < 0 := zi_nlt c_9
                    refine lv_iconst (v := 0) hx hb dX8_warn_95 (by decide) ?_
                    refine lv_istore (lv' := [(4, .int 0), (3, .int t3_c81), (2, .int t2_c33), (0, .ref h), (1, .int k)]) hx hb dX8_warn_96 hl (by decide) rfl (fun ls hl => ?_)
                    refine lv_iconst (v := 0) hx hb dX8_warn_98 (by decide) ?_
                    refine lv_istore (lv' := [(5, .int 0), (4, .int 0), (3, .int t3_c81), (2, .int t2_c33), (0, .ref h), (1, .int k)]) hx hb dX8_warn_99 hl (by decide) rfl (fun ls hl => ?_)
                    have hL101 : ∀ (nf : Nat) (t5_c101 : Int32) (t4_c101 : Int32) (H : Heap) (locs : List Loc) (ls : Array Slot), (0 ≤ t5_c101.toInt ∧ t5_c101.toInt ≤ 8) → (8 - t5_c101.toInt).toNat < nf → va_P D kl [(h, .inr (7, [.ref sl, .int na, .ref zs, .ref ln, .ref ir, .ref tk, .int su, .int le, .ref tb, .int fu, .int ap, .int pp, .ref tr, .int tc, .ref fz, .int nm])), (sl, .inl (cI, 1653, .inl g0_c33)), (fz, .inl (cI, 8, .inl g1_c33))] H → va_D A [(h, .inr (7, [.ref sl, .int na, .ref zs, .ref ln, .ref ir, .ref tk, .int su, .int le, .ref tb, .int fu, .int ap, .int pp, .ref tr, .int tc, .ref fz, .int nm])), (sl, .inl (cI, 1653, .inl g0_c33)), (fz, .inl (cI, 8, .inl g1_c33))] → va_S A s.heap H locs → lv_has ls 6 [(5, .int t5_c101), (4, .int t4_c101), (3, .int t3_c81), (2, .int t2_c33), (0, .ref h), (1, .int k)] → W p l e ({ frames := 6, cells := 0, slots := 0, locals := 145 }) s m ([.ref h, .int k] : List Value).toArray below meth c H locs 0 0 (MQ below (va_Qi (fun (r : Int32) (u : (Nat → Int32) × (Nat → Int32)) => (FRM (1539) (1596) sf u.1) ∧ (SI u.1 v0)) (fun u t => wb D A ((fun u => [(h, .inr (7, [.ref sl, .int na, .ref zs, .ref ln, .ref ir, .ref tk, .int su, .int le, .ref tb, .int fu, .int ap, .int pp, .ref tr, .int tc, .ref fz, .int nm])), (sl, .inl (cI, 1653, .inl u.1)), (fz, .inl (cI, 8, .inl u.2))]) u) t) A) ([.ref h, .int k] : List Value).toArray s 0 0 A) (F0 m 101 ls []) := by
                      intro nf
                      induction nf with
                      | zero =>
                        intro t5_c101 t4_c101 H locs ls i_t5_c101 hm
                        exact absurd hm (Nat.not_lt_zero _)
                      | succ nf ih101 =>
                        intro t5_c101 t4_c101 H locs ls i_t5_c101 hm101 hP hD hS hl
                        refine lv_iload hx hb dX8_warn_101 (lv_at hl 0 rfl) ?_
                        refine lv_aload_n hx hb dX8_warn_103 rfl (lv_at hl 4 rfl) ?_
                        refine va_get (D := D) (ci := 7) (v := .ref sl) (C := RX8) (T := TX8) (N := 16) hx hb hts (fun _ h => List.mem_cons_of_mem _ (List.mem_append_right _ h)) hown hK hP 0 rfl rfl 0 (by decide) (hts (.fieldLink RX8 7 "WinterWalkModel" "slot" "[I") (List.mem_of_getElem? (i := 1) rfl)) (fun _ h9 => h9) rfl dX8_warn_104 ?_
                        refine lv_iconst (v := 1) hx hb dX8_warn_107 (by decide) ?_
                        refine va_iald hx hb hK hP 1 0 rfl rfl (zi_in (by decide) (by decide)) dX8_warn_108 ?_
                        refine lv_topi (fun x_11 ex_11 => ?_)
                        have f_11 : 0 ≤ x_11.toInt ∧ x_11.toInt ≤ 8 := by rw [ex_11]; exact si_v ha_g0_c33 (s := 0) (by decide) (by omega)
                        have g_11 : x_11.toInt = v0 := by rw [ex_11]; exact ha_g0_c33.2
                        refine lv_icmp_ge (tgt := 176) hx hb dX8_warn_109 (by decide) (fun c_12 => ?_) (fun c_12 => ?_)
                        · have f_12 : x_11.toInt ≤ t5_c101.toInt := zi_le c_12
                          refine lv_aload_n hx hb dX8_warn_176 rfl (lv_at hl 4 rfl) ?_
                          refine va_get (D := D) (ci := 7) (v := .ref fz) (C := RX8) (T := TX8) (N := 16) hx hb hts (fun _ h => List.mem_cons_of_mem _ (List.mem_append_right _ h)) hown hK hP 0 rfl rfl 14 (by decide) (hts (.fieldLink RX8 32 "WinterWalkModel" "froze" "[I") (List.mem_of_getElem? (i := 6) rfl)) (fun _ h9 => h9) rfl dX8_warn_177 ?_
                          refine lv_iload_n hx hb dX8_warn_180 rfl (lv_at hl 2 rfl) ?_
                          refine va_iald hx hb hK hP 2 0 rfl rfl (zi_in (by omega) (by omega)) dX8_warn_181 ?_
                          refine lv_topi (fun x_13 ex_13 => ?_)
                          clear ex_13
                          refine lv_if_lt (tgt := 193) hx hb dX8_warn_182 (by decide) (fun c_14 => ?_) (fun c_14 => ?_)
                          · have f_14 : x_13.toInt < 0 := zi_lt c_14
                            obtain ⟨x_15, ex_15⟩ : ∃ y : Int32, y = t3_c81 + Int32.ofInt 1 := ⟨_, rfl⟩
                            refine lv_iinc (v := x_15) (lv' := [(3, .int x_15), (5, .int t5_c101), (4, .int t4_c101), (2, .int t2_c33), (0, .ref h), (1, .int k)]) hx hb dX8_warn_193 hl (k := 2) rfl ex_15.symm (by decide) rfl (fun ls hl => ?_)
                            have ex_15 : x_15 = t3_c81 + 1 := ex_15
                            have e_15 : x_15.toInt = t3_c81.toInt + 1 := by rw [ex_15]; exact zi_add (rfl) (by decide) (by omega) (by omega)
                            clear ex_15
                            refine lv_goto (tgt := 81) hx hb dX8_warn_196 (by decide) ?_
                            exact ih81 x_15 _ _ _ (show 0 ≤ x_15.toInt ∧ x_15.toInt ≤ 8 from by omega) (by omega) (hP.sub [0, 1, 2] rfl) (hD.sub [0, 1, 2] (by decide) rfl) hS (lv_sub hl [0, 3, 4, 5] rfl)
                          · have f_14 : ¬ x_13.toInt < 0 := zi_nlt c_14
                            refine lv_iload hx hb dX8_warn_185 (lv_at hl 1 rfl) ?_
                            refine lv_iload_n hx hb dX8_warn_187 rfl (lv_at hl 5 rfl) ?_
                            refine lv_icmp_ne (tgt := 193) hx hb dX8_warn_188 (by decide) (fun c_16 => ?_) (fun c_16 => ?_)
                            · have f_16 : ¬ t4_c101.toInt = k.toInt := zi_ne c_16
                              obtain ⟨x_17, ex_17⟩ : ∃ y : Int32, y = t3_c81 + Int32.ofInt 1 := ⟨_, rfl⟩
                              refine lv_iinc (v := x_17) (lv' := [(3, .int x_17), (5, .int t5_c101), (4, .int t4_c101), (2, .int t2_c33), (0, .ref h), (1, .int k)]) hx hb dX8_warn_193 hl (k := 2) rfl ex_17.symm (by decide) rfl (fun ls hl => ?_)
                              have ex_17 : x_17 = t3_c81 + 1 := ex_17
                              have e_17 : x_17.toInt = t3_c81.toInt + 1 := by rw [ex_17]; exact zi_add (rfl) (by decide) (by omega) (by omega)
                              clear ex_17
                              refine lv_goto (tgt := 81) hx hb dX8_warn_196 (by decide) ?_
                              exact ih81 x_17 _ _ _ (show 0 ≤ x_17.toInt ∧ x_17.toInt ≤ 8 from by omega) (by omega) (hP.sub [0, 1, 2] rfl) (hD.sub [0, 1, 2] (by decide) rfl) hS (lv_sub hl [0, 3, 4, 5] rfl)
                            · have f_16 : t4_c101.toInt = k.toInt := zi_eq c_16
                              refine lv_iload_n hx hb dX8_warn_191 rfl (lv_at hl 2 rfl) ?_
                              exact wr_i (v := t3_c81) hx hb hr hlocks hS (g0_c33, g1_c33) (by exact ⟨show FRM (1539) (1596) sf g0_c33 from hf_c33, ha_g0_c33⟩) (hP.sub [0, 1, 2] rfl) (hD.sub [0, 1, 2] (by decide) rfl) dX8_warn_192
                        · have f_12 : ¬ x_11.toInt ≤ t5_c101.toInt := zi_nle c_12
                          refine lv_iload hx hb dX8_warn_112 (lv_at hl 1 rfl) ?_
                          refine lv_aload_n hx hb dX8_warn_114 rfl (lv_at hl 4 rfl) ?_
                          refine va_get (D := D) (ci := 7) (v := .ref fz) (C := RX8) (T := TX8) (N := 16) hx hb hts (fun _ h => List.mem_cons_of_mem _ (List.mem_append_right _ h)) hown hK hP 0 rfl rfl 14 (by decide) (hts (.fieldLink RX8 32 "WinterWalkModel" "froze" "[I") (List.mem_of_getElem? (i := 6) rfl)) (fun _ h9 => h9) rfl dX8_warn_115 ?_
                          refine lv_iload hx hb dX8_warn_118 (lv_at hl 0 rfl) ?_
                          refine va_iald hx hb hK hP 2 0 rfl rfl (zi_in (by omega) (by omega)) dX8_warn_120 ?_
                          refine lv_topi (fun x_18 ex_18 => ?_)
                          clear ex_18
                          refine lv_if_lt (tgt := 166) hx hb dX8_warn_121 (by decide) (fun c_19 => ?_) (fun c_19 => ?_)
                          · have f_19 : x_18.toInt < 0 := zi_lt c_19
                            refine lv_iconst (v := 0) hx hb dX8_warn_166 (by decide) ?_
                            refine lv_iadd hx hb dX8_warn_167 ?_
                            refine lv_topi (fun x_20 ex_20 => ?_)
                            clear ex_20
                            refine lv_istore (lv' := [(4, .int x_20), (5, .int t5_c101), (3, .int t3_c81), (2, .int t2_c33), (0, .ref h), (1, .int k)]) hx hb dX8_warn_168 hl (by decide) rfl (fun ls hl => ?_)
                            obtain ⟨x_21, ex_21⟩ : ∃ y : Int32, y = t5_c101 + Int32.ofInt 1 := ⟨_, rfl⟩
                            refine lv_iinc (v := x_21) (lv' := [(5, .int x_21), (4, .int x_20), (3, .int t3_c81), (2, .int t2_c33), (0, .ref h), (1, .int k)]) hx hb dX8_warn_170 hl (k := 1) rfl ex_21.symm (by decide) rfl (fun ls hl => ?_)
                            have ex_21 : x_21 = t5_c101 + 1 := ex_21
                            have e_21 : x_21.toInt = t5_c101.toInt + 1 := by rw [ex_21]; exact zi_add (rfl) (by decide) (by omega) (by omega)
                            clear ex_21
                            refine lv_goto (tgt := 101) hx hb dX8_warn_173 (by decide) ?_
                            exact ih101 x_21 x_20 _ _ _ (show 0 ≤ x_21.toInt ∧ x_21.toInt ≤ 8 from by omega) (by omega) (hP.sub [0, 1, 2] rfl) (hD.sub [0, 1, 2] (by decide) rfl) hS (lv_sub hl [0, 1, 2, 3, 4, 5] rfl)
                          · have f_19 : ¬ x_18.toInt < 0 := zi_nlt c_19
                            refine lv_aload_n hx hb dX8_warn_124 rfl (lv_at hl 4 rfl) ?_
                            refine va_get (D := D) (ci := 7) (v := .ref fz) (C := RX8) (T := TX8) (N := 16) hx hb hts (fun _ h => List.mem_cons_of_mem _ (List.mem_append_right _ h)) hown hK hP 0 rfl rfl 14 (by decide) (hts (.fieldLink RX8 32 "WinterWalkModel" "froze" "[I") (List.mem_of_getElem? (i := 6) rfl)) (fun _ h9 => h9) rfl dX8_warn_125 ?_
                            refine lv_iload hx hb dX8_warn_128 (lv_at hl 0 rfl) ?_
                            refine va_iald hx hb hK hP 2 0 rfl rfl (zi_in (by omega) (by omega)) dX8_warn_130 ?_
                            refine lv_topi (fun x_22 ex_22 => ?_)
                            clear ex_22
                            refine lv_aload_n hx hb dX8_warn_131 rfl (lv_at hl 4 rfl) ?_
                            refine va_get (D := D) (ci := 7) (v := .ref fz) (C := RX8) (T := TX8) (N := 16) hx hb hts (fun _ h => List.mem_cons_of_mem _ (List.mem_append_right _ h)) hown hK hP 0 rfl rfl 14 (by decide) (hts (.fieldLink RX8 32 "WinterWalkModel" "froze" "[I") (List.mem_of_getElem? (i := 6) rfl)) (fun _ h9 => h9) rfl dX8_warn_132 ?_
                            refine lv_iload_n hx hb dX8_warn_135 rfl (lv_at hl 2 rfl) ?_
                            refine va_iald hx hb hK hP 2 0 rfl rfl (zi_in (by omega) (by omega)) dX8_warn_136 ?_
                            refine lv_topi (fun x_23 ex_23 => ?_)
                            clear ex_23
                            refine lv_icmp_lt (tgt := 162) hx hb dX8_warn_137 (by decide) (fun c_24 => ?_) (fun c_24 => ?_)
                            · have f_24 : x_22.toInt < x_23.toInt := zi_lt c_24
                              refine lv_iconst (v := 1) hx hb dX8_warn_162 (by decide) ?_
                              refine lv_goto (tgt := 167) hx hb dX8_warn_163 (by decide) ?_
                              refine lv_iadd hx hb dX8_warn_167 ?_
                              refine lv_topi (fun x_25 ex_25 => ?_)
                              clear ex_25
                              refine lv_istore (lv' := [(4, .int x_25), (5, .int t5_c101), (3, .int t3_c81), (2, .int t2_c33), (0, .ref h), (1, .int k)]) hx hb dX8_warn_168 hl (by decide) rfl (fun ls hl => ?_)
                              obtain ⟨x_26, ex_26⟩ : ∃ y : Int32, y = t5_c101 + Int32.ofInt 1 := ⟨_, rfl⟩
                              refine lv_iinc (v := x_26) (lv' := [(5, .int x_26), (4, .int x_25), (3, .int t3_c81), (2, .int t2_c33), (0, .ref h), (1, .int k)]) hx hb dX8_warn_170 hl (k := 1) rfl ex_26.symm (by decide) rfl (fun ls hl => ?_)
                              have ex_26 : x_26 = t5_c101 + 1 := ex_26
                              have e_26 : x_26.toInt = t5_c101.toInt + 1 := by rw [ex_26]; exact zi_add (rfl) (by decide) (by omega) (by omega)
                              clear ex_26
                              refine lv_goto (tgt := 101) hx hb dX8_warn_173 (by decide) ?_
                              exact ih101 x_26 x_25 _ _ _ (show 0 ≤ x_26.toInt ∧ x_26.toInt ≤ 8 from by omega) (by omega) (hP.sub [0, 1, 2] rfl) (hD.sub [0, 1, 2] (by decide) rfl) hS (lv_sub hl [0, 1, 2, 3, 4, 5] rfl)
                            · have f_24 : ¬ x_22.toInt < x_23.toInt := zi_nlt c_24
                              refine lv_aload_n hx hb dX8_warn_140 rfl (lv_at hl 4 rfl) ?_
                              refine va_get (D := D) (ci := 7) (v := .ref fz) (C := RX8) (T := TX8) (N := 16) hx hb hts (fun _ h => List.mem_cons_of_mem _ (List.mem_append_right _ h)) hown hK hP 0 rfl rfl 14 (by decide) (hts (.fieldLink RX8 32 "WinterWalkModel" "froze" "[I") (List.mem_of_getElem? (i := 6) rfl)) (fun _ h9 => h9) rfl dX8_warn_141 ?_
                              refine lv_iload hx hb dX8_warn_144 (lv_at hl 0 rfl) ?_
                              refine va_iald hx hb hK hP 2 0 rfl rfl (zi_in (by omega) (by omega)) dX8_warn_146 ?_
                              refine lv_topi (fun x_27 ex_27 => ?_)
                              clear ex_27
                              refine lv_aload_n hx hb dX8_warn_147 rfl (lv_at hl 4 rfl) ?_
                              refine va_get (D := D) (ci := 7) (v := .ref fz) (C := RX8) (T := TX8) (N := 16) hx hb hts (fun _ h => List.mem_cons_of_mem _ (List.mem_append_right _ h)) hown hK hP 0 rfl rfl 14 (by decide) (hts (.fieldLink RX8 32 "WinterWalkModel" "froze" "[I") (List.mem_of_getElem? (i := 6) rfl)) (fun _ h9 => h9) rfl dX8_warn_148 ?_
                              refine lv_iload_n hx hb dX8_warn_151 rfl (lv_at hl 2 rfl) ?_
                              refine va_iald hx hb hK hP 2 0 rfl rfl (zi_in (by omega) (by omega)) dX8_warn_152 ?_
                              refine lv_topi (fun x_28 ex_28 => ?_)
                              clear ex_28
                              refine lv_icmp_ne (tgt := 166) hx hb dX8_warn_153 (by decide) (fun c_29 => ?_) (fun c_29 => ?_)
                              · have f_29 : ¬ x_27.toInt = x_28.toInt := zi_ne c_29
                                refine lv_iconst (v := 0) hx hb dX8_warn_166 (by decide) ?_
                                refine lv_iadd hx hb dX8_warn_167 ?_
                                refine lv_topi (fun x_30 ex_30 => ?_)
                                clear ex_30
                                refine lv_istore (lv' := [(4, .int x_30), (5, .int t5_c101), (3, .int t3_c81), (2, .int t2_c33), (0, .ref h), (1, .int k)]) hx hb dX8_warn_168 hl (by decide) rfl (fun ls hl => ?_)
                                obtain ⟨x_31, ex_31⟩ : ∃ y : Int32, y = t5_c101 + Int32.ofInt 1 := ⟨_, rfl⟩
                                refine lv_iinc (v := x_31) (lv' := [(5, .int x_31), (4, .int x_30), (3, .int t3_c81), (2, .int t2_c33), (0, .ref h), (1, .int k)]) hx hb dX8_warn_170 hl (k := 1) rfl ex_31.symm (by decide) rfl (fun ls hl => ?_)
                                have ex_31 : x_31 = t5_c101 + 1 := ex_31
                                have e_31 : x_31.toInt = t5_c101.toInt + 1 := by rw [ex_31]; exact zi_add (rfl) (by decide) (by omega) (by omega)
                                clear ex_31
                                refine lv_goto (tgt := 101) hx hb dX8_warn_173 (by decide) ?_
                                exact ih101 x_31 x_30 _ _ _ (show 0 ≤ x_31.toInt ∧ x_31.toInt ≤ 8 from by omega) (by omega) (hP.sub [0, 1, 2] rfl) (hD.sub [0, 1, 2] (by decide) rfl) hS (lv_sub hl [0, 1, 2, 3, 4, 5] rfl)
                              · have f_29 : x_27.toInt = x_28.toInt := zi_eq c_29
                                refine lv_iload hx hb dX8_warn_156 (lv_at hl 0 rfl) ?_
                                refine lv_iload_n hx hb dX8_warn_158 rfl (lv_at hl 2 rfl) ?_
                                refine lv_icmp_ge (tgt := 166) hx hb dX8_warn_159 (by decide) (fun c_32 => ?_) (fun c_32 => ?_)
                                · have f_32 : t3_c81.toInt ≤ t5_c101.toInt := zi_le c_32
                                  refine lv_iconst (v := 0) hx hb dX8_warn_166 (by decide) ?_
                                  refine lv_iadd hx hb dX8_warn_167 ?_
                                  refine lv_topi (fun x_33 ex_33 => ?_)
                                  clear ex_33
                                  refine lv_istore (lv' := [(4, .int x_33), (5, .int t5_c101), (3, .int t3_c81), (2, .int t2_c33), (0, .ref h), (1, .int k)]) hx hb dX8_warn_168 hl (by decide) rfl (fun ls hl => ?_)
                                  obtain ⟨x_34, ex_34⟩ : ∃ y : Int32, y = t5_c101 + Int32.ofInt 1 := ⟨_, rfl⟩
                                  refine lv_iinc (v := x_34) (lv' := [(5, .int x_34), (4, .int x_33), (3, .int t3_c81), (2, .int t2_c33), (0, .ref h), (1, .int k)]) hx hb dX8_warn_170 hl (k := 1) rfl ex_34.symm (by decide) rfl (fun ls hl => ?_)
                                  have ex_34 : x_34 = t5_c101 + 1 := ex_34
                                  have e_34 : x_34.toInt = t5_c101.toInt + 1 := by rw [ex_34]; exact zi_add (rfl) (by decide) (by omega) (by omega)
                                  clear ex_34
                                  refine lv_goto (tgt := 101) hx hb dX8_warn_173 (by decide) ?_
                                  exact ih101 x_34 x_33 _ _ _ (show 0 ≤ x_34.toInt ∧ x_34.toInt ≤ 8 from by omega) (by omega) (hP.sub [0, 1, 2] rfl) (hD.sub [0, 1, 2] (by decide) rfl) hS (lv_sub hl [0, 1, 2, 3, 4, 5] rfl)
                                · have f_32 : ¬ t3_c81.toInt ≤ t5_c101.toInt := zi_nle c_32
                                  refine lv_iconst (v := 1) hx hb dX8_warn_162 (by decide) ?_
                                  refine lv_goto (tgt := 167) hx hb dX8_warn_163 (by decide) ?_
                                  refine lv_iadd hx hb dX8_warn_167 ?_
                                  refine lv_topi (fun x_35 ex_35 => ?_)
                                  clear ex_35
                                  refine lv_istore (lv' := [(4, .int x_35), (5, .int t5_c101), (3, .int t3_c81), (2, .int t2_c33), (0, .ref h), (1, .int k)]) hx hb dX8_warn_168 hl (by decide) rfl (fun ls hl => ?_)
                                  obtain ⟨x_36, ex_36⟩ : ∃ y : Int32, y = t5_c101 + Int32.ofInt 1 := ⟨_, rfl⟩
                                  refine lv_iinc (v := x_36) (lv' := [(5, .int x_36), (4, .int x_35), (3, .int t3_c81), (2, .int t2_c33), (0, .ref h), (1, .int k)]) hx hb dX8_warn_170 hl (k := 1) rfl ex_36.symm (by decide) rfl (fun ls hl => ?_)
                                  have ex_36 : x_36 = t5_c101 + 1 := ex_36
                                  have e_36 : x_36.toInt = t5_c101.toInt + 1 := by rw [ex_36]; exact zi_add (rfl) (by decide) (by omega) (by omega)
                                  clear ex_36
                                  refine lv_goto (tgt := 101) hx hb dX8_warn_173 (by decide) ?_
                                  exact ih101 x_36 x_35 _ _ _ (show 0 ≤ x_36.toInt ∧ x_36.toInt ≤ 8 from by omega) (by omega) (hP.sub [0, 1, 2] rfl) (hD.sub [0, 1, 2] (by decide) rfl) hS (lv_sub hl [0, 1, 2, 3, 4, 5] rfl)
                    exact hL101 (((8 - (0 : Int32).toInt).toNat) + 1) 0 0 _ _ _ (show 0 ≤ 0 ∧ 0 ≤ 8 from by omega) (Nat.lt_succ_self _) (hP.sub [0, 1, 2] rfl) (hD.sub [0, 1, 2] (by decide) rfl) hS (lv_sub hl [0, 1, 2, 3, 4, 5] rfl)
            exact hL81 (((8 - (0 : Int32).toInt).toNat) + 1) 0 _ _ _ (show 0 ≤ 0 ∧ 0 ≤ 8 from by omega) (Nat.lt_succ_self _) (hP.sub [0, 1, 2] rfl) (hD.sub [0, 1, 2] (by decide) rfl) hS (lv_sub hl [0, 1, 2, 3] rfl)
          · have f_5 : ¬ x_4.toInt ≤ t3_c33.toInt := zi_nle c_5
            refine lv_aload_n hx hb dX8_warn_43 rfl (lv_at hl 2 rfl) ?_
            refine va_get (D := D) (ci := 7) (v := .ref fz) (C := RX8) (T := TX8) (N := 16) hx hb hts (fun _ h => List.mem_cons_of_mem _ (List.mem_append_right _ h)) hown hK hP 0 rfl rfl 14 (by decide) (hts (.fieldLink RX8 32 "WinterWalkModel" "froze" "[I") (List.mem_of_getElem? (i := 6) rfl)) (fun _ h9 => h9) rfl dX8_warn_44 ?_
            refine lv_iload_n hx hb dX8_warn_47 rfl (lv_at hl 0 rfl) ?_
            refine lv_aload_n hx hb dX8_warn_48 rfl (lv_at hl 2 rfl) ?_
            refine lv_iload_n hx hb dX8_warn_49 rfl (lv_at hl 0 rfl) ?_
            refine lv_bipush (v := 100) hx hb dX8_warn_50 (by decide) ?_
            have k_37 := (f_X8_freezesOf l D cI cB cQ H.size h sl zs ln ir tk tb tr fz na su le fu ap pp tc nm t3_c33 100 g0_c33 v0 ha_g0_c33 (by omega) ⟨by decide, by decide⟩)
            refine wc_i (WC := [(h, .inr (7, [.ref sl, .int na, .ref zs, .ref ln, .ref ir, .ref tk, .int su, .int le, .ref tb, .int fu, .int ap, .int pp, .ref tr, .int tc, .ref fz, .int nm])), (sl, .inl (cI, 1653, .inl g0_c33))]) (WR := [(fz, .inl (cI, 8, .inl g1_c33))]) (va_runV (As := [.int t3_c33, .int 100]) (rest := [.int t3_c33, .ref fz]) ⟨hx, hb, hml, hown, hts⟩ k_37 (cwV 2 hts gX8_warn_X8_freezesOf rfl rfl rfl (by decide +kernel) ⟨Nat.le_of_ble_eq_true rfl, Nat.le_of_ble_eq_true rfl⟩) (wp_V hP hK hD hN [0, 1] (by decide) rfl (ci := 7) rfl rfl) rfl rfl hl.1 rfl (lv_room (Nat.le_of_ble_eq_true rfl)) dX8_warn_52 ⟨Nat.le_of_ble_eq_true rfl, Nat.le_of_ble_eq_true rfl⟩) hP hD hS hA [0, 1] [2] rfl rfl (by decide) (by decide) (fun r_37 u_37 H locs hw_37 hP hD hS => ?_)
            clear k_37
            have hP : va_P D kl [(fz, .inl (cI, 8, .inl g1_c33)), (h, .inr (7, [.ref sl, .int na, .ref zs, .ref ln, .ref ir, .ref tk, .int su, .int le, .ref tb, .int fu, .int ap, .int pp, .ref tr, .int tc, .ref fz, .int nm])), (sl, .inl (cI, 1653, .inl u_37))] H := hP
            have hD : va_D A [(fz, .inl (cI, 8, .inl g1_c33)), (h, .inr (7, [.ref sl, .int na, .ref zs, .ref ln, .ref ir, .ref tk, .int su, .int le, .ref tb, .int fu, .int ap, .int pp, .ref tr, .int tc, .ref fz, .int nm])), (sl, .inl (cI, 1653, .inl u_37))] := hD
            obtain ⟨c37_0, c37_1⟩ := hw_37
            have c37_0 : FRM (1539) (1596) g0_c33 u_37 := c37_0
            have c37_1 : SI u_37 v0 := c37_1
            have hf_37 : FRM (1539) (1596) sf u_37 := FRM.trans hf_c33 (FRM.sub c37_0 (by omega) (by omega))
            refine va_iast hx hb hK hP hD hS 0 0 rfl rfl (zi_in (by omega) (by omega)) dX8_warn_55 (fun H locs hP hD hS => ?_)
            have hP : va_P D kl [(fz, .inl (cI, 8, .inl (upd g1_c33 (t3_c33 : Int32).toNatClampNeg r_37))), (h, .inr (7, [.ref sl, .int na, .ref zs, .ref ln, .ref ir, .ref tk, .int su, .int le, .ref tb, .int fu, .int ap, .int pp, .ref tr, .int tc, .ref fz, .int nm])), (sl, .inl (cI, 1653, .inl u_37))] H := hP
            have hD : va_D A [(fz, .inl (cI, 8, .inl (upd g1_c33 (t3_c33 : Int32).toNatClampNeg r_37))), (h, .inr (7, [.ref sl, .int na, .ref zs, .ref ln, .ref ir, .ref tk, .int su, .int le, .ref tb, .int fu, .int ap, .int pp, .ref tr, .int tc, .ref fz, .int nm])), (sl, .inl (cI, 1653, .inl u_37))] := hD
            refine lv_iload_n hx hb dX8_warn_56 rfl (lv_at hl 1 rfl) ?_
            refine lv_aload_n hx hb dX8_warn_57 rfl (lv_at hl 2 rfl) ?_
            refine va_get (D := D) (ci := 7) (v := .ref fz) (C := RX8) (T := TX8) (N := 16) hx hb hts (fun _ h => List.mem_cons_of_mem _ (List.mem_append_right _ h)) hown hK hP 1 rfl rfl 14 (by decide) (hts (.fieldLink RX8 32 "WinterWalkModel" "froze" "[I") (List.mem_of_getElem? (i := 6) rfl)) (fun _ h9 => h9) rfl dX8_warn_58 ?_
            refine lv_iload_n hx hb dX8_warn_61 rfl (lv_at hl 0 rfl) ?_
            refine va_iald hx hb hK hP 0 0 rfl rfl (zi_in (by omega) (by omega)) dX8_warn_62 ?_
            refine lv_topi (fun x_38 ex_38 => ?_)
            clear ex_38
            refine lv_if_lt (tgt := 70) hx hb dX8_warn_63 (by decide) (fun c_39 => ?_) (fun c_39 => ?_)
            · have f_39 : x_38.toInt < 0 := zi_lt c_39
              refine lv_iconst (v := 0) hx hb dX8_warn_70 (by decide) ?_
              refine lv_iadd hx hb dX8_warn_71 ?_
              refine lv_topi (fun x_40 ex_40 => ?_)
              clear ex_40
              refine lv_istore_n (lv' := [(2, .int x_40), (3, .int t3_c33), (0, .ref h), (1, .int k)]) hx hb dX8_warn_72 rfl hl (by decide) rfl (fun ls hl => ?_)
              obtain ⟨x_41, ex_41⟩ : ∃ y : Int32, y = t3_c33 + Int32.ofInt 1 := ⟨_, rfl⟩
              refine lv_iinc (v := x_41) (lv' := [(3, .int x_41), (2, .int x_40), (0, .ref h), (1, .int k)]) hx hb dX8_warn_73 hl (k := 1) rfl ex_41.symm (by decide) rfl (fun ls hl => ?_)
              have ex_41 : x_41 = t3_c33 + 1 := ex_41
              have e_41 : x_41.toInt = t3_c33.toInt + 1 := by rw [ex_41]; exact zi_add (rfl) (by decide) (by omega) (by omega)
              clear ex_41
              refine lv_goto (tgt := 33) hx hb dX8_warn_76 (by decide) ?_
              exact ih33 x_41 x_40 u_37 (upd g1_c33 (t3_c33 : Int32).toNatClampNeg r_37) _ _ _ (show 0 ≤ x_41.toInt ∧ x_41.toInt ≤ 8 from by omega) c37_1 hf_37 (by omega) (hP.sub [1, 2, 0] rfl) (hD.sub [1, 2, 0] (by decide) rfl) hS (lv_sub hl [0, 1, 2, 3] rfl)
            · have f_39 : ¬ x_38.toInt < 0 := zi_nlt c_39
              refine lv_iconst (v := 1) hx hb dX8_warn_66 (by decide) ?_
              refine lv_goto (tgt := 71) hx hb dX8_warn_67 (by decide) ?_
              refine lv_iadd hx hb dX8_warn_71 ?_
              refine lv_topi (fun x_42 ex_42 => ?_)
              clear ex_42
              refine lv_istore_n (lv' := [(2, .int x_42), (3, .int t3_c33), (0, .ref h), (1, .int k)]) hx hb dX8_warn_72 rfl hl (by decide) rfl (fun ls hl => ?_)
              obtain ⟨x_43, ex_43⟩ : ∃ y : Int32, y = t3_c33 + Int32.ofInt 1 := ⟨_, rfl⟩
              refine lv_iinc (v := x_43) (lv' := [(3, .int x_43), (2, .int x_42), (0, .ref h), (1, .int k)]) hx hb dX8_warn_73 hl (k := 1) rfl ex_43.symm (by decide) rfl (fun ls hl => ?_)
              have ex_43 : x_43 = t3_c33 + 1 := ex_43
              have e_43 : x_43.toInt = t3_c33.toInt + 1 := by rw [ex_43]; exact zi_add (rfl) (by decide) (by omega) (by omega)
              clear ex_43
              refine lv_goto (tgt := 33) hx hb dX8_warn_76 (by decide) ?_
              exact ih33 x_43 x_42 u_37 (upd g1_c33 (t3_c33 : Int32).toNatClampNeg r_37) _ _ _ (show 0 ≤ x_43.toInt ∧ x_43.toInt ≤ 8 from by omega) c37_1 hf_37 (by omega) (hP.sub [1, 2, 0] rfl) (hD.sub [1, 2, 0] (by decide) rfl) hS (lv_sub hl [0, 1, 2, 3] rfl)
      exact hL33 (((8 - (0 : Int32).toInt).toNat) + 1) 0 0 sf fzf _ _ _ (show 0 ≤ 0 ∧ 0 ≤ 8 from by omega) hsi FRM.refl (Nat.lt_succ_self _) (hP.sub [0, 1, 2] rfl) (hD.sub [0, 1, 2] (by decide) rfl) hS (lv_sub hl [0, 1, 2, 3] rfl)
    · subst e_3
      have f_3 : ¬ ((-1 : Int) ≤ k.toInt ∧ k.toInt ≤ (7 : Int)) := by
        have h8 := f_3
        try simp only [zl_of] at h8
        exact h8
      refine lv_if_ne (tgt := 29) hx hb dX8_warn_23 (by decide) (fun c9 => absurd (by decide) c9) (fun _ => ?_)
      refine lv_ldc (v := (-1000001)) hx hb hown (hts (.constant RX8 48 (-1000001)) (List.mem_of_getElem? (i := 5) rfl)) dX8_warn_26 ?_
      exact wr_i (v := (-1000001)) hx hb hr hlocks hS (sf, fzf) (by exact ⟨show FRM (1539) (1596) sf sf from FRM.refl, hsi⟩) (hP.sub [0, 1, 2] rfl) (hD.sub [0, 1, 2] (by decide) rfl) dX8_warn_28
  · have f_2 : x_1.toInt = 0 := zi_eq c_2
    refine lv_ldc (v := (-1000002)) hx hb hown (hts (.constant RX8 121 (-1000002)) (List.mem_of_getElem? (i := 2) rfl)) dX8_warn_9 ?_
    exact wr_i (v := (-1000002)) hx hb hr hlocks hS (sf, fzf) (by exact ⟨show FRM (1539) (1596) sf sf from FRM.refl, hsi⟩) (hP.sub [0, 1, 2] rfl) (hD.sub [0, 1, 2] (by decide) rfl) dX8_warn_11
set_option maxHeartbeats 4000000 in
set_option maxRecDepth 100000 in
theorem f_X8_isSlept (l : Launch) (D : va_G) (cI cB cQ : ClassId) (sz : Nat) (h : Nat) (sl : Nat) (zs : Nat) (ln : Nat) (ir : Nat) (tk : Nat) (tb : Nat) (tr : Nat) (fz : Nat) (na : Int32) (su : Int32) (le : Int32) (fu : Int32) (ap : Int32) (pp : Int32) (tc : Int32) (nm : Int32) (v : Int32) (n : Int32) (sf : Nat → Int32) (v0 : Int) (hsi : SI sf v0) (h_v : 0 ≤ v.toInt ∧ v.toInt ≤ 7) (h_n : 0 ≤ n.toInt ∧ n.toInt ≤ 100) : mi l yX8_isSlept wsX8_isSlept ({ frames := 5, cells := 0, slots := 0, locals := 122 }) D cI cB cQ [.ref h, .int v, .int n] sz [(h, .inr (7, [.ref sl, .int na, .ref zs, .ref ln, .ref ir, .ref tk, .int su, .int le, .ref tb, .int fu, .int ap, .int pp, .ref tr, .int tc, .ref fz, .int nm])), (sl, .inl (cI, 1653, .inl sf))] (fun (r : Int32) (u : (Nat → Int32)) => ((r = 1) ∨ (r = 0)) ∧ (FRM (1539) (1596) sf u) ∧ (SI u v0)) (fun u => [(h, .inr (7, [.ref sl, .int na, .ref zs, .ref ln, .ref ir, .ref tk, .int su, .int le, .ref tb, .int fu, .int ap, .int pp, .ref tr, .int tc, .ref fz, .int nm])), (sl, .inl (cI, 1653, .inl u))]) 0 0 := by
  refine wm_i (cc := cX8_isSlept) (maxL := 5) (ret := (some .boolean)) (by decide) rfl (Nat.le_of_ble_eq_true rfl) ?_
  intro p e s m below meth c A ls hx hb hr hml hown hts hlocks hin hP hK hD hN hA hl hS
  have hown : s.vm.findClass RX8 = some m.cls := hown
  have hl : lv_has ls 5 [(0, .ref h), (1, .int v), (2, .int n)] := hl
  change W p l e ({ frames := 5, cells := 0, slots := 0, locals := 122 }) s m ([.ref h, .int v, .int n] : List Value).toArray below meth c s.heap [] 0 0 (MQ below (va_Qi (fun (r : Int32) (u : (Nat → Int32)) => ((r = 1) ∨ (r = 0)) ∧ (FRM (1539) (1596) sf u) ∧ (SI u v0)) (fun u t => wb D A ((fun u => [(h, .inr (7, [.ref sl, .int na, .ref zs, .ref ln, .ref ir, .ref tk, .int su, .int le, .ref tb, .int fu, .int ap, .int pp, .ref tr, .int tc, .ref fz, .int nm])), (sl, .inl (cI, 1653, .inl u))]) u) t) A) ([.ref h, .int v, .int n] : List Value).toArray s 0 0 A) (F0 m 0 ls [])
  refine lv_aload_n hx hb dX8_isSlept_0 rfl (lv_at hl 0 rfl) ?_
  refine va_get (D := D) (ci := 7) (v := .ref sl) (C := RX8) (T := TX8) (N := 16) hx hb hts (fun _ h => List.mem_cons_of_mem _ (List.mem_append_right _ h)) hown hK hP 0 rfl rfl 0 (by decide) (hts (.fieldLink RX8 7 "WinterWalkModel" "slot" "[I") (List.mem_of_getElem? (i := 1) rfl)) (fun _ h9 => h9) rfl dX8_isSlept_1 ?_
  refine lv_sipush (v := 1579) hx hb dX8_isSlept_4 (by decide) ?_
  refine lv_iload_n hx hb dX8_isSlept_7 rfl (lv_at hl 1 rfl) ?_
  refine lv_iadd hx hb dX8_isSlept_8 ?_
  refine lv_topi (fun x_1 ex_1 => ?_)
  have e_1 : x_1.toInt = 1579 + v.toInt := by rw [ex_1]; exact zi_add (by decide) (rfl) (by omega) (by omega)
  clear ex_1
  refine va_iald hx hb hK hP 1 0 rfl rfl (zi_in (by omega) (by omega)) dX8_isSlept_9 ?_
  refine lv_topi (fun x_2 ex_2 => ?_)
  clear ex_2
  refine lv_istore_n (lv' := [(3, .int x_2), (0, .ref h), (1, .int v), (2, .int n)]) hx hb dX8_isSlept_10 rfl hl (by decide) rfl (fun ls hl => ?_)
  refine lv_iconst (v := 0) hx hb dX8_isSlept_11 (by decide) ?_
  refine lv_istore (lv' := [(4, .int 0), (3, .int x_2), (0, .ref h), (1, .int v), (2, .int n)]) hx hb dX8_isSlept_12 hl (by decide) rfl (fun ls hl => ?_)
  have hL14 : ∀ (nf : Nat) (t4_c14 : Int32) (g0_c14 : Nat → Int32) (H : Heap) (locs : List Loc) (ls : Array Slot), (0 ≤ t4_c14.toInt ∧ t4_c14.toInt ≤ 100) → (SI g0_c14 v0) → (FRM (1539) (1596) sf g0_c14) → (n.toInt - t4_c14.toInt).toNat < nf → va_P D kl [(h, .inr (7, [.ref sl, .int na, .ref zs, .ref ln, .ref ir, .ref tk, .int su, .int le, .ref tb, .int fu, .int ap, .int pp, .ref tr, .int tc, .ref fz, .int nm])), (sl, .inl (cI, 1653, .inl g0_c14))] H → va_D A [(h, .inr (7, [.ref sl, .int na, .ref zs, .ref ln, .ref ir, .ref tk, .int su, .int le, .ref tb, .int fu, .int ap, .int pp, .ref tr, .int tc, .ref fz, .int nm])), (sl, .inl (cI, 1653, .inl g0_c14))] → va_S A s.heap H locs → lv_has ls 5 [(4, .int t4_c14), (3, .int x_2), (0, .ref h), (1, .int v), (2, .int n)] → W p l e ({ frames := 5, cells := 0, slots := 0, locals := 122 }) s m ([.ref h, .int v, .int n] : List Value).toArray below meth c H locs 0 0 (MQ below (va_Qi (fun (r : Int32) (u : (Nat → Int32)) => ((r = 1) ∨ (r = 0)) ∧ (FRM (1539) (1596) sf u) ∧ (SI u v0)) (fun u t => wb D A ((fun u => [(h, .inr (7, [.ref sl, .int na, .ref zs, .ref ln, .ref ir, .ref tk, .int su, .int le, .ref tb, .int fu, .int ap, .int pp, .ref tr, .int tc, .ref fz, .int nm])), (sl, .inl (cI, 1653, .inl u))]) u) t) A) ([.ref h, .int v, .int n] : List Value).toArray s 0 0 A) (F0 m 14 ls []) := by
    intro nf
    induction nf with
    | zero =>
      intro t4_c14 g0_c14 H locs ls i_t4_c14 ha_g0_c14 hf_c14 hm
      exact absurd hm (Nat.not_lt_zero _)
    | succ nf ih14 =>
      intro t4_c14 g0_c14 H locs ls i_t4_c14 ha_g0_c14 hf_c14 hm14 hP hD hS hl
      refine lv_iload hx hb dX8_isSlept_14 (lv_at hl 0 rfl) ?_
      refine lv_iload_n hx hb dX8_isSlept_16 rfl (lv_at hl 4 rfl) ?_
      refine lv_icmp_ge (tgt := 33) hx hb dX8_isSlept_17 (by decide) (fun c_3 => ?_) (fun c_3 => ?_)
      · have f_3 : n.toInt ≤ t4_c14.toInt := zi_le c_3
        refine lv_aload_n hx hb dX8_isSlept_33 rfl (lv_at hl 2 rfl) ?_
        refine va_get (D := D) (ci := 7) (v := .ref sl) (C := RX8) (T := TX8) (N := 16) hx hb hts (fun _ h => List.mem_cons_of_mem _ (List.mem_append_right _ h)) hown hK hP 0 rfl rfl 0 (by decide) (hts (.fieldLink RX8 7 "WinterWalkModel" "slot" "[I") (List.mem_of_getElem? (i := 1) rfl)) (fun _ h9 => h9) rfl dX8_isSlept_34 ?_
        refine lv_sipush (v := 1579) hx hb dX8_isSlept_37 (by decide) ?_
        refine lv_iload_n hx hb dX8_isSlept_40 rfl (lv_at hl 3 rfl) ?_
        refine lv_iadd hx hb dX8_isSlept_41 ?_
        refine lv_topi (fun x_4 ex_4 => ?_)
        have e_4 : x_4.toInt = 1579 + v.toInt := by rw [ex_4]; exact zi_add (by decide) (rfl) (by omega) (by omega)
        clear ex_4
        refine va_iald hx hb hK hP 1 0 rfl rfl (zi_in (by omega) (by omega)) dX8_isSlept_42 ?_
        refine lv_topi (fun x_5 ex_5 => ?_)
        clear ex_5
        refine lv_iload_n hx hb dX8_isSlept_43 rfl (lv_at hl 1 rfl) ?_
        refine lv_icmp_le (tgt := 51) hx hb dX8_isSlept_44 (by decide) (fun c_6 => ?_) (fun c_6 => ?_)
        · have f_6 : x_5.toInt ≤ x_2.toInt := zi_le c_6
          refine lv_iconst (v := 0) hx hb dX8_isSlept_51 (by decide) ?_
          exact wr_z (v := 0) hx hb hr hlocks hS g0_c14 (by exact ⟨Or.inr (rfl), show FRM (1539) (1596) sf g0_c14 from hf_c14, ha_g0_c14⟩) (hP.sub [0, 1] rfl) (hD.sub [0, 1] (by decide) rfl) dX8_isSlept_52 rfl
        · have f_6 : ¬ x_5.toInt ≤ x_2.toInt := zi_nle c_6
          refine lv_iconst (v := 1) hx hb dX8_isSlept_47 (by decide) ?_
          refine lv_goto (tgt := 52) hx hb dX8_isSlept_48 (by decide) ?_
          exact wr_z (v := 1) hx hb hr hlocks hS g0_c14 (by exact ⟨Or.inl rfl, show FRM (1539) (1596) sf g0_c14 from hf_c14, ha_g0_c14⟩) (hP.sub [0, 1] rfl) (hD.sub [0, 1] (by decide) rfl) dX8_isSlept_52 rfl
      · have f_3 : ¬ n.toInt ≤ t4_c14.toInt := zi_nle c_3
        refine lv_aload_n hx hb dX8_isSlept_20 rfl (lv_at hl 2 rfl) ?_
        refine lv_bipush (v := 27) hx hb dX8_isSlept_21 (by decide) ?_
        refine lv_iconst (v := (-1)) hx hb dX8_isSlept_23 (by decide) ?_
        have k_7 := (f_X8_day l D cI cB cQ H.size h sl zs ln ir tk tb tr fz na su le fu ap pp tc nm 27 (-1) g0_c14 v0 ha_g0_c14 ⟨by decide, by decide⟩)
        refine wc_v (WC := [(h, .inr (7, [.ref sl, .int na, .ref zs, .ref ln, .ref ir, .ref tk, .int su, .int le, .ref tb, .int fu, .int ap, .int pp, .ref tr, .int tc, .ref fz, .int nm])), (sl, .inl (cI, 1653, .inl g0_c14))]) (WR := []) (va_runV (As := [.int 27, .int (-1)]) (rest := []) ⟨hx, hb, hml, hown, hts⟩ k_7 (cwV 2 hts gX8_isSlept_X8_day rfl rfl rfl (by decide +kernel) ⟨Nat.le_of_ble_eq_true rfl, Nat.le_of_ble_eq_true rfl⟩) (wp_V hP hK hD hN [0, 1] (by decide) rfl (ci := 7) rfl rfl) rfl rfl hl.1 rfl (lv_room (Nat.le_of_ble_eq_true rfl)) dX8_isSlept_24 ⟨Nat.le_of_ble_eq_true rfl, Nat.le_of_ble_eq_true rfl⟩) hP hD hS hA [0, 1] [] rfl rfl (by decide) (by decide) (fun u_7 H locs hw_7 hP hD hS => ?_)
        clear k_7
        have hP : va_P D kl [(h, .inr (7, [.ref sl, .int na, .ref zs, .ref ln, .ref ir, .ref tk, .int su, .int le, .ref tb, .int fu, .int ap, .int pp, .ref tr, .int tc, .ref fz, .int nm])), (sl, .inl (cI, 1653, .inl u_7))] H := hP
        have hD : va_D A [(h, .inr (7, [.ref sl, .int na, .ref zs, .ref ln, .ref ir, .ref tk, .int su, .int le, .ref tb, .int fu, .int ap, .int pp, .ref tr, .int tc, .ref fz, .int nm])), (sl, .inl (cI, 1653, .inl u_7))] := hD
        obtain ⟨c7_0, c7_1⟩ := hw_7
        have c7_0 : FRM (57 * (27 : Int) + 31) (57 * (27 : Int) + 57) g0_c14 u_7 := c7_0
        have c7_1 : SI u_7 v0 := c7_1
        have hf_7 : FRM (1539) (1596) sf u_7 := FRM.trans hf_c14 (FRM.sub c7_0 (by omega) (by omega))
        obtain ⟨x_8, ex_8⟩ : ∃ y : Int32, y = t4_c14 + Int32.ofInt 1 := ⟨_, rfl⟩
        refine lv_iinc (v := x_8) (lv' := [(4, .int x_8), (3, .int x_2), (0, .ref h), (1, .int v), (2, .int n)]) hx hb dX8_isSlept_27 hl (k := 0) rfl ex_8.symm (by decide) rfl (fun ls hl => ?_)
        have ex_8 : x_8 = t4_c14 + 1 := ex_8
        have e_8 : x_8.toInt = t4_c14.toInt + 1 := by rw [ex_8]; exact zi_add (rfl) (by decide) (by omega) (by omega)
        clear ex_8
        refine lv_goto (tgt := 14) hx hb dX8_isSlept_30 (by decide) ?_
        exact ih14 x_8 u_7 _ _ _ (show 0 ≤ x_8.toInt ∧ x_8.toInt ≤ 100 from by omega) c7_1 hf_7 (by omega) (hP.sub [0, 1] rfl) (hD.sub [0, 1] (by decide) rfl) hS (lv_sub hl [0, 1, 2, 3, 4] rfl)
  exact hL14 (((n.toInt - (0 : Int32).toInt).toNat) + 1) 0 sf _ _ _ (show 0 ≤ 0 ∧ 0 ≤ 100 from by omega) hsi FRM.refl (Nat.lt_succ_self _) (hP.sub [0, 1] rfl) (hD.sub [0, 1] (by decide) rfl) hS (lv_sub hl [0, 1, 2, 3, 4] rfl)
set_option maxHeartbeats 4000000 in
set_option maxRecDepth 100000 in
theorem f_X8_lure (l : Launch) (D : va_G) (cI cB cQ : ClassId) (sz : Nat) (h : Nat) (sl : Nat) (zs : Nat) (ln : Nat) (ir : Nat) (tk : Nat) (tb : Nat) (tr : Nat) (fz : Nat) (na : Int32) (su : Int32) (le : Int32) (fu : Int32) (ap : Int32) (pp : Int32) (tc : Int32) (nm : Int32) (v : Int32) (n : Int32) (sf : Nat → Int32) (v0 : Int) (hsi : SI sf v0) : mi l yX8_lure wsX8_lure ({ frames := 6, cells := 0, slots := 0, locals := 146 }) D cI cB cQ [.ref h, .int v, .int n] sz [(h, .inr (7, [.ref sl, .int na, .ref zs, .ref ln, .ref ir, .ref tk, .int su, .int le, .ref tb, .int fu, .int ap, .int pp, .ref tr, .int tc, .ref fz, .int nm])), (sl, .inl (cI, 1653, .inl sf))] (fun (r : Int32) (u : (Nat → Int32)) => (FRM (1539) (1596) sf u) ∧ (SI u v0)) (fun u => [(h, .inr (7, [.ref sl, .int na, .ref zs, .ref ln, .ref ir, .ref tk, .int su, .int le, .ref tb, .int fu, .int ap, .int pp, .ref tr, .int tc, .ref fz, .int nm])), (sl, .inl (cI, 1653, .inl u))]) 0 0 := by
  refine wm_i (cc := cX8_lure) (maxL := 4) (ret := (some .int)) (by decide) rfl (Nat.le_of_ble_eq_true rfl) ?_
  intro p e s m below meth c A ls hx hb hr hml hown hts hlocks hin hP hK hD hN hA hl hS
  have hown : s.vm.findClass RX8 = some m.cls := hown
  have hl : lv_has ls 4 [(0, .ref h), (1, .int v), (2, .int n)] := hl
  change W p l e ({ frames := 6, cells := 0, slots := 0, locals := 146 }) s m ([.ref h, .int v, .int n] : List Value).toArray below meth c s.heap [] 0 0 (MQ below (va_Qi (fun (r : Int32) (u : (Nat → Int32)) => (FRM (1539) (1596) sf u) ∧ (SI u v0)) (fun u t => wb D A ((fun u => [(h, .inr (7, [.ref sl, .int na, .ref zs, .ref ln, .ref ir, .ref tk, .int su, .int le, .ref tb, .int fu, .int ap, .int pp, .ref tr, .int tc, .ref fz, .int nm])), (sl, .inl (cI, 1653, .inl u))]) u) t) A) ([.ref h, .int v, .int n] : List Value).toArray s 0 0 A) (F0 m 0 ls [])
  refine lv_aload_n hx hb dX8_lure_0 rfl (lv_at hl 0 rfl) ?_
  refine lv_iload_n hx hb dX8_lure_1 rfl (lv_at hl 1 rfl) ?_
  have k_1 := (g_X8_isVillageThere l D cI cB cQ s.heap.size h sl zs ln ir tk tb tr fz na su le fu ap pp tc nm v sf v0 hsi)
  refine wc_i (WC := [(h, .inr (7, [.ref sl, .int na, .ref zs, .ref ln, .ref ir, .ref tk, .int su, .int le, .ref tb, .int fu, .int ap, .int pp, .ref tr, .int tc, .ref fz, .int nm])), (sl, .inl (cI, 1653, .inl sf))]) (WR := []) (va_runV (As := [.int v]) (rest := []) ⟨hx, hb, hml, hown, hts⟩ k_1 (cwV 1 hts gX8_lure_X8_isVillageThere rfl rfl rfl (by decide +kernel) ⟨Nat.le_of_ble_eq_true rfl, Nat.le_of_ble_eq_true rfl⟩) (wp_V hP hK hD hN [0, 1] (by decide) rfl (ci := 7) rfl rfl) rfl rfl hl.1 rfl (lv_room (Nat.le_of_ble_eq_true rfl)) dX8_lure_2 ⟨Nat.le_of_ble_eq_true rfl, Nat.le_of_ble_eq_true rfl⟩) hP hD hS hA [0, 1] [] rfl rfl (by decide) (by decide) (fun r_1 u_1 H locs hw_1 hP hD hS => ?_)
  clear k_1
  have hP : va_P D kl [(h, .inr (7, [.ref sl, .int na, .ref zs, .ref ln, .ref ir, .ref tk, .int su, .int le, .ref tb, .int fu, .int ap, .int pp, .ref tr, .int tc, .ref fz, .int nm])), (sl, .inl (cI, 1653, .inl sf))] H := hP
  have hD : va_D A [(h, .inr (7, [.ref sl, .int na, .ref zs, .ref ln, .ref ir, .ref tk, .int su, .int le, .ref tb, .int fu, .int ap, .int pp, .ref tr, .int tc, .ref fz, .int nm])), (sl, .inl (cI, 1653, .inl sf))] := hD
  have c1_0 := hw_1
  rcases c1_0 with ⟨e_1, f_1⟩ | e_1
  · subst e_1
    have f_1 : 0 ≤ v.toInt ∧ v.toInt ≤ 7 ∧ v.toInt < v0 := f_1
    refine lv_if_eq (tgt := 20) hx hb dX8_lure_5 (by decide) (fun c9 => absurd c9 (by decide)) (fun _ => ?_)
    refine lv_iload_n hx hb dX8_lure_8 rfl (lv_at hl 2 rfl) ?_
    refine lv_i2l (v := (n.toInt64)) hx hb dX8_lure_9 rfl ?_
    refine lv_lconst (v := 1) hx hb dX8_lure_10 (by decide) ?_
    refine lv_ldc2 (v := 100) hx hb hown (hts (.constantLong RX8 160 (100)) (List.mem_of_getElem? (i := 1) rfl)) dX8_lure_11 ?_
    have k_2 := (g_X8_in l D cI cB cQ H.size (n.toInt64) 1 100)
    refine wc_i (WC := []) (WR := [(h, .inr (7, [.ref sl, .int na, .ref zs, .ref ln, .ref ir, .ref tk, .int su, .int le, .ref tb, .int fu, .int ap, .int pp, .ref tr, .int tc, .ref fz, .int nm])), (sl, .inl (cI, 1653, .inl sf))]) (va_runS (As := [.long (n.toInt64), .long 1, .long 100]) (rest := []) ⟨hx, hb, hml, hown, hts⟩ k_2 (va_cwS 3 hts gX8_lure_X8_in rfl rfl rfl (by decide +kernel) ⟨Nat.le_of_ble_eq_true rfl, Nat.le_of_ble_eq_true rfl⟩) (wp_S hP hK hD hN [] (by decide) rfl) rfl rfl hl.1 rfl (lv_room (Nat.le_of_ble_eq_true rfl)) dX8_lure_14 ⟨Nat.le_of_ble_eq_true rfl, Nat.le_of_ble_eq_true rfl⟩) hP hD hS hA [] [0, 1] rfl rfl (by decide) (by decide) (fun r_2 u_2 H locs hw_2 hP hD hS => ?_)
    clear k_2
    have hP : va_P D kl [(h, .inr (7, [.ref sl, .int na, .ref zs, .ref ln, .ref ir, .ref tk, .int su, .int le, .ref tb, .int fu, .int ap, .int pp, .ref tr, .int tc, .ref fz, .int nm])), (sl, .inl (cI, 1653, .inl sf))] H := hP
    have hD : va_D A [(h, .inr (7, [.ref sl, .int na, .ref zs, .ref ln, .ref ir, .ref tk, .int su, .int le, .ref tb, .int fu, .int ap, .int pp, .ref tr, .int tc, .ref fz, .int nm])), (sl, .inl (cI, 1653, .inl sf))] := hD
    have c2_0 := hw_2
    rcases c2_0 with ⟨e_2, f_2⟩ | ⟨e_2, f_2⟩
    · subst e_2
      have f_2 : (1 : Int) ≤ n.toInt ∧ n.toInt ≤ (100 : Int) := by
        have h8 := f_2
        try simp only [zl_of] at h8
        exact h8
      refine lv_if_ne (tgt := 23) hx hb dX8_lure_17 (by decide) (fun _ => ?_) (fun c9 => absurd c9 (by decide))
      refine lv_iconst (v := 0) hx hb dX8_lure_23 (by decide) ?_
      refine lv_istore_n (lv' := [(3, .int 0), (0, .ref h), (1, .int v), (2, .int n)]) hx hb dX8_lure_24 rfl hl (by decide) rfl (fun ls hl => ?_)
      have hL25 : ∀ (nf : Nat) (t3_c25 : Int32) (g0_c25 : Nat → Int32) (H : Heap) (locs : List Loc) (ls : Array Slot), (0 ≤ t3_c25.toInt ∧ t3_c25.toInt ≤ 21) → (SI g0_c25 v0) → (FRM (1539) (1596) sf g0_c25) → (21 - t3_c25.toInt).toNat < nf → va_P D kl [(h, .inr (7, [.ref sl, .int na, .ref zs, .ref ln, .ref ir, .ref tk, .int su, .int le, .ref tb, .int fu, .int ap, .int pp, .ref tr, .int tc, .ref fz, .int nm])), (sl, .inl (cI, 1653, .inl g0_c25))] H → va_D A [(h, .inr (7, [.ref sl, .int na, .ref zs, .ref ln, .ref ir, .ref tk, .int su, .int le, .ref tb, .int fu, .int ap, .int pp, .ref tr, .int tc, .ref fz, .int nm])), (sl, .inl (cI, 1653, .inl g0_c25))] → va_S A s.heap H locs → lv_has ls 4 [(3, .int t3_c25), (0, .ref h), (1, .int v), (2, .int n)] → W p l e ({ frames := 6, cells := 0, slots := 0, locals := 146 }) s m ([.ref h, .int v, .int n] : List Value).toArray below meth c H locs 0 0 (MQ below (va_Qi (fun (r : Int32) (u : (Nat → Int32)) => (FRM (1539) (1596) sf u) ∧ (SI u v0)) (fun u t => wb D A ((fun u => [(h, .inr (7, [.ref sl, .int na, .ref zs, .ref ln, .ref ir, .ref tk, .int su, .int le, .ref tb, .int fu, .int ap, .int pp, .ref tr, .int tc, .ref fz, .int nm])), (sl, .inl (cI, 1653, .inl u))]) u) t) A) ([.ref h, .int v, .int n] : List Value).toArray s 0 0 A) (F0 m 25 ls []) := by
        intro nf
        induction nf with
        | zero =>
          intro t3_c25 g0_c25 H locs ls i_t3_c25 ha_g0_c25 hf_c25 hm
          exact absurd hm (Nat.not_lt_zero _)
        | succ nf ih25 =>
          intro t3_c25 g0_c25 H locs ls i_t3_c25 ha_g0_c25 hf_c25 hm25 hP hD hS hl
          refine lv_iload_n hx hb dX8_lure_25 rfl (lv_at hl 0 rfl) ?_
          refine lv_bipush (v := 21) hx hb dX8_lure_26 (by decide) ?_
          refine lv_icmp_ge (tgt := 66) hx hb dX8_lure_28 (by decide) (fun c_3 => ?_) (fun c_3 => ?_)
          · have f_3 : 21 ≤ t3_c25.toInt := zi_le c_3
            refine lv_ldc (v := (-1000000)) hx hb hown (hts (.constant RX8 99 (-1000000)) (List.mem_of_getElem? (i := 4) rfl)) dX8_lure_66 ?_
            exact wr_i (v := (-1000000)) hx hb hr hlocks hS g0_c25 (by exact ⟨show FRM (1539) (1596) sf g0_c25 from hf_c25, ha_g0_c25⟩) (hP.sub [0, 1] rfl) (hD.sub [0, 1] (by decide) rfl) dX8_lure_68
          · have f_3 : ¬ 21 ≤ t3_c25.toInt := zi_nle c_3
            refine lv_aload_n hx hb dX8_lure_31 rfl (lv_at hl 1 rfl) ?_
            refine lv_iconst (v := 0) hx hb dX8_lure_32 (by decide) ?_
            refine lv_bipush (v := 27) hx hb dX8_lure_33 (by decide) ?_
            have k_4 := (f_X8_copies l D cI cB cQ H.size h sl zs ln ir tk tb tr fz na su le fu ap pp tc nm 0 27 g0_c25 v0 ha_g0_c25 ⟨by decide, by decide⟩ ⟨by decide, by decide⟩ (by have hk0 : (0 : Int32).toInt = 0 := (by decide); have hk1 : (27 : Int32).toInt = 27 := (by decide); omega))
            refine wc_v (WC := [(h, .inr (7, [.ref sl, .int na, .ref zs, .ref ln, .ref ir, .ref tk, .int su, .int le, .ref tb, .int fu, .int ap, .int pp, .ref tr, .int tc, .ref fz, .int nm])), (sl, .inl (cI, 1653, .inl g0_c25))]) (WR := []) (va_runV (As := [.int 0, .int 27]) (rest := []) ⟨hx, hb, hml, hown, hts⟩ k_4 (cwV 2 hts gX8_lure_X8_copies rfl rfl rfl (by decide +kernel) ⟨Nat.le_of_ble_eq_true rfl, Nat.le_of_ble_eq_true rfl⟩) (wp_V hP hK hD hN [0, 1] (by decide) rfl (ci := 7) rfl rfl) rfl rfl hl.1 rfl (lv_room (Nat.le_of_ble_eq_true rfl)) dX8_lure_35 ⟨Nat.le_of_ble_eq_true rfl, Nat.le_of_ble_eq_true rfl⟩) hP hD hS hA [0, 1] [] rfl rfl (by decide) (by decide) (fun u_4 H locs hw_4 hP hD hS => ?_)
            clear k_4
            have hP : va_P D kl [(h, .inr (7, [.ref sl, .int na, .ref zs, .ref ln, .ref ir, .ref tk, .int su, .int le, .ref tb, .int fu, .int ap, .int pp, .ref tr, .int tc, .ref fz, .int nm])), (sl, .inl (cI, 1653, .inl u_4))] H := hP
            have hD : va_D A [(h, .inr (7, [.ref sl, .int na, .ref zs, .ref ln, .ref ir, .ref tk, .int su, .int le, .ref tb, .int fu, .int ap, .int pp, .ref tr, .int tc, .ref fz, .int nm])), (sl, .inl (cI, 1653, .inl u_4))] := hD
            obtain ⟨c4_0, c4_1, c4_2⟩ := hw_4
            have c4_0 : ∀ q : Nat, q < 57 → u_4 (57 * (27 : Int).toNat + q) = g0_c25 (57 * (0 : Int).toNat + q) := c4_0
            have c4_1 : FRM ((57 * (27 : Int))) ((57 * (27 : Int) + 57)) g0_c25 u_4 := c4_1
            have c4_2 : SI u_4 v0 := c4_2
            have hf_4 : FRM (1539) (1596) sf u_4 := FRM.trans hf_c25 (FRM.sub c4_1 (by omega) (by omega))
            refine lv_aload_n hx hb dX8_lure_38 rfl (lv_at hl 1 rfl) ?_
            refine va_get (D := D) (ci := 7) (v := .ref sl) (C := RX8) (T := TX8) (N := 16) hx hb hts (fun _ h => List.mem_cons_of_mem _ (List.mem_append_right _ h)) hown hK hP 0 rfl rfl 0 (by decide) (hts (.fieldLink RX8 7 "WinterWalkModel" "slot" "[I") (List.mem_of_getElem? (i := 3) rfl)) (fun _ h9 => h9) rfl dX8_lure_39 ?_
            refine lv_sipush (v := 1562) hx hb dX8_lure_42 (by decide) ?_
            refine lv_iload_n hx hb dX8_lure_45 rfl (lv_at hl 2 rfl) ?_
            refine lv_iadd hx hb dX8_lure_46 ?_
            refine lv_topi (fun x_5 ex_5 => ?_)
            have e_5 : x_5.toInt = 1562 + v.toInt := by rw [ex_5]; exact zi_add (by decide) (rfl) (by omega) (by omega)
            clear ex_5
            refine lv_iload_n hx hb dX8_lure_47 rfl (lv_at hl 0 rfl) ?_
            refine va_iast hx hb hK hP hD hS 1 0 rfl rfl (zi_in (by omega) (by omega)) dX8_lure_48 (fun H locs hP hD hS => ?_)
            have hP : va_P D kl [(h, .inr (7, [.ref sl, .int na, .ref zs, .ref ln, .ref ir, .ref tk, .int su, .int le, .ref tb, .int fu, .int ap, .int pp, .ref tr, .int tc, .ref fz, .int nm])), (sl, .inl (cI, 1653, .inl (upd u_4 (x_5 : Int32).toNatClampNeg t3_c25)))] H := hP
            have hD : va_D A [(h, .inr (7, [.ref sl, .int na, .ref zs, .ref ln, .ref ir, .ref tk, .int su, .int le, .ref tb, .int fu, .int ap, .int pp, .ref tr, .int tc, .ref fz, .int nm])), (sl, .inl (cI, 1653, .inl (upd u_4 (x_5 : Int32).toNatClampNeg t3_c25)))] := hD
            have ha_6 : SI (upd u_4 (x_5 : Int32).toNatClampNeg t3_c25) v0 := si_up c4_2 (by omega) (fun s0 a0 b0 e0 => by omega) (fun s0 a0 b0 e0 => by omega) (fun s0 k0 a0 b0 c0 d0 e0 => by omega) (by omega)
            have hf_7 : FRM (1539) (1596) sf (upd u_4 (x_5 : Int32).toNatClampNeg t3_c25) := FRM.up hf_4 (by omega)
            refine lv_aload_n hx hb dX8_lure_49 rfl (lv_at hl 1 rfl) ?_
            refine lv_iload_n hx hb dX8_lure_50 rfl (lv_at hl 2 rfl) ?_
            refine lv_iload_n hx hb dX8_lure_51 rfl (lv_at hl 3 rfl) ?_
            have k_8 := (f_X8_isSlept l D cI cB cQ H.size h sl zs ln ir tk tb tr fz na su le fu ap pp tc nm v n (upd u_4 (x_5 : Int32).toNatClampNeg t3_c25) v0 ha_6 (by omega) (by omega))
            refine wc_i (WC := [(h, .inr (7, [.ref sl, .int na, .ref zs, .ref ln, .ref ir, .ref tk, .int su, .int le, .ref tb, .int fu, .int ap, .int pp, .ref tr, .int tc, .ref fz, .int nm])), (sl, .inl (cI, 1653, .inl (upd u_4 (x_5 : Int32).toNatClampNeg t3_c25)))]) (WR := []) (va_runV (As := [.int v, .int n]) (rest := []) ⟨hx, hb, hml, hown, hts⟩ k_8 (cwV 2 hts gX8_lure_X8_isSlept rfl rfl rfl (by decide +kernel) ⟨Nat.le_of_ble_eq_true rfl, Nat.le_of_ble_eq_true rfl⟩) (wp_V hP hK hD hN [0, 1] (by decide) rfl (ci := 7) rfl rfl) rfl rfl hl.1 rfl (lv_room (Nat.le_of_ble_eq_true rfl)) dX8_lure_52 ⟨Nat.le_of_ble_eq_true rfl, Nat.le_of_ble_eq_true rfl⟩) hP hD hS hA [0, 1] [] rfl rfl (by decide) (by decide) (fun r_8 u_8 H locs hw_8 hP hD hS => ?_)
            clear k_8
            have hP : va_P D kl [(h, .inr (7, [.ref sl, .int na, .ref zs, .ref ln, .ref ir, .ref tk, .int su, .int le, .ref tb, .int fu, .int ap, .int pp, .ref tr, .int tc, .ref fz, .int nm])), (sl, .inl (cI, 1653, .inl u_8))] H := hP
            have hD : va_D A [(h, .inr (7, [.ref sl, .int na, .ref zs, .ref ln, .ref ir, .ref tk, .int su, .int le, .ref tb, .int fu, .int ap, .int pp, .ref tr, .int tc, .ref fz, .int nm])), (sl, .inl (cI, 1653, .inl u_8))] := hD
            obtain ⟨c8_0, c8_1, c8_2⟩ := hw_8
            have c8_1 : FRM (1539) (1596) (upd u_4 (x_5 : Int32).toNatClampNeg t3_c25) u_8 := c8_1
            have c8_2 : SI u_8 v0 := c8_2
            have hf_8 : FRM (1539) (1596) sf u_8 := FRM.trans hf_7 (FRM.sub c8_1 (by omega) (by omega))
            rcases c8_0 with e_8 | e_8
            · subst e_8
              refine lv_if_eq (tgt := 60) hx hb dX8_lure_55 (by decide) (fun c9 => absurd c9 (by decide)) (fun _ => ?_)
              refine lv_iload_n hx hb dX8_lure_58 rfl (lv_at hl 0 rfl) ?_
              exact wr_i (v := t3_c25) hx hb hr hlocks hS u_8 (by exact ⟨show FRM (1539) (1596) sf u_8 from hf_8, c8_2⟩) (hP.sub [0, 1] rfl) (hD.sub [0, 1] (by decide) rfl) dX8_lure_59
            · subst e_8
              refine lv_if_eq (tgt := 60) hx hb dX8_lure_55 (by decide) (fun _ => ?_) (fun c9 => absurd (by decide) c9)
              obtain ⟨x_9, ex_9⟩ : ∃ y : Int32, y = t3_c25 + Int32.ofInt 1 := ⟨_, rfl⟩
              refine lv_iinc (v := x_9) (lv' := [(3, .int x_9), (0, .ref h), (1, .int v), (2, .int n)]) hx hb dX8_lure_60 hl (k := 0) rfl ex_9.symm (by decide) rfl (fun ls hl => ?_)
              have ex_9 : x_9 = t3_c25 + 1 := ex_9
              have e_9 : x_9.toInt = t3_c25.toInt + 1 := by rw [ex_9]; exact zi_add (rfl) (by decide) (by omega) (by omega)
              clear ex_9
              refine lv_goto (tgt := 25) hx hb dX8_lure_63 (by decide) ?_
              exact ih25 x_9 u_8 _ _ _ (show 0 ≤ x_9.toInt ∧ x_9.toInt ≤ 21 from by omega) c8_2 hf_8 (by omega) (hP.sub [0, 1] rfl) (hD.sub [0, 1] (by decide) rfl) hS (lv_sub hl [0, 1, 2, 3] rfl)
      exact hL25 (((21 - (0 : Int32).toInt).toNat) + 1) 0 sf _ _ _ (show 0 ≤ 0 ∧ 0 ≤ 21 from by omega) hsi FRM.refl (Nat.lt_succ_self _) (hP.sub [0, 1] rfl) (hD.sub [0, 1] (by decide) rfl) hS (lv_sub hl [0, 1, 2, 3] rfl)
    · subst e_2
      have f_2 : ¬ ((1 : Int) ≤ n.toInt ∧ n.toInt ≤ (100 : Int)) := by
        have h8 := f_2
        try simp only [zl_of] at h8
        exact h8
      refine lv_if_ne (tgt := 23) hx hb dX8_lure_17 (by decide) (fun c9 => absurd (by decide) c9) (fun _ => ?_)
      refine lv_ldc (v := (-1000001)) hx hb hown (hts (.constant RX8 48 (-1000001)) (List.mem_of_getElem? (i := 2) rfl)) dX8_lure_20 ?_
      exact wr_i (v := (-1000001)) hx hb hr hlocks hS sf (by exact ⟨show FRM (1539) (1596) sf sf from FRM.refl, hsi⟩) (hP.sub [0, 1] rfl) (hD.sub [0, 1] (by decide) rfl) dX8_lure_22
  · subst e_1
    refine lv_if_eq (tgt := 20) hx hb dX8_lure_5 (by decide) (fun _ => ?_) (fun c9 => absurd (by decide) c9)
    refine lv_ldc (v := (-1000001)) hx hb hown (hts (.constant RX8 48 (-1000001)) (List.mem_of_getElem? (i := 2) rfl)) dX8_lure_20 ?_
    exact wr_i (v := (-1000001)) hx hb hr hlocks hS sf (by exact ⟨show FRM (1539) (1596) sf sf from FRM.refl, hsi⟩) (hP.sub [0, 1] rfl) (hD.sub [0, 1] (by decide) rfl) dX8_lure_22
set_option maxHeartbeats 4000000 in
set_option maxRecDepth 100000 in
theorem f_X8_keepsAway (l : Launch) (D : va_G) (cI cB cQ : ClassId) (sz : Nat) (h : Nat) (sl : Nat) (zs : Nat) (ln : Nat) (ir : Nat) (tk : Nat) (tb : Nat) (tr : Nat) (fz : Nat) (na : Int32) (su : Int32) (le : Int32) (fu : Int32) (ap : Int32) (pp : Int32) (tc : Int32) (nm : Int32) (v : Int32) (n : Int32) (k : Int32) (sf : Nat → Int32) (v0 : Int) (hsi : SI sf v0) : mi l yX8_keepsAway wsX8_keepsAway ({ frames := 6, cells := 0, slots := 0, locals := 146 }) D cI cB cQ [.ref h, .int v, .int n, .int k] sz [(h, .inr (7, [.ref sl, .int na, .ref zs, .ref ln, .ref ir, .ref tk, .int su, .int le, .ref tb, .int fu, .int ap, .int pp, .ref tr, .int tc, .ref fz, .int nm])), (sl, .inl (cI, 1653, .inl sf))] (fun (r : Int32) (u : (Nat → Int32)) => (FRM (1539) (1596) sf u) ∧ (SI u v0)) (fun u => [(h, .inr (7, [.ref sl, .int na, .ref zs, .ref ln, .ref ir, .ref tk, .int su, .int le, .ref tb, .int fu, .int ap, .int pp, .ref tr, .int tc, .ref fz, .int nm])), (sl, .inl (cI, 1653, .inl u))]) 0 0 := by
  refine wm_i (cc := cX8_keepsAway) (maxL := 6) (ret := (some .int)) (by decide) rfl (Nat.le_of_ble_eq_true rfl) ?_
  intro p e s m below meth c A ls hx hb hr hml hown hts hlocks hin hP hK hD hN hA hl hS
  have hown : s.vm.findClass RX8 = some m.cls := hown
  have hl : lv_has ls 6 [(0, .ref h), (1, .int v), (2, .int n), (3, .int k)] := hl
  change W p l e ({ frames := 6, cells := 0, slots := 0, locals := 146 }) s m ([.ref h, .int v, .int n, .int k] : List Value).toArray below meth c s.heap [] 0 0 (MQ below (va_Qi (fun (r : Int32) (u : (Nat → Int32)) => (FRM (1539) (1596) sf u) ∧ (SI u v0)) (fun u t => wb D A ((fun u => [(h, .inr (7, [.ref sl, .int na, .ref zs, .ref ln, .ref ir, .ref tk, .int su, .int le, .ref tb, .int fu, .int ap, .int pp, .ref tr, .int tc, .ref fz, .int nm])), (sl, .inl (cI, 1653, .inl u))]) u) t) A) ([.ref h, .int v, .int n, .int k] : List Value).toArray s 0 0 A) (F0 m 0 ls [])
  refine lv_aload_n hx hb dX8_keepsAway_0 rfl (lv_at hl 0 rfl) ?_
  refine lv_iload_n hx hb dX8_keepsAway_1 rfl (lv_at hl 1 rfl) ?_
  have k_1 := (g_X8_isVillageThere l D cI cB cQ s.heap.size h sl zs ln ir tk tb tr fz na su le fu ap pp tc nm v sf v0 hsi)
  refine wc_i (WC := [(h, .inr (7, [.ref sl, .int na, .ref zs, .ref ln, .ref ir, .ref tk, .int su, .int le, .ref tb, .int fu, .int ap, .int pp, .ref tr, .int tc, .ref fz, .int nm])), (sl, .inl (cI, 1653, .inl sf))]) (WR := []) (va_runV (As := [.int v]) (rest := []) ⟨hx, hb, hml, hown, hts⟩ k_1 (cwV 1 hts gX8_keepsAway_X8_isVillageThere rfl rfl rfl (by decide +kernel) ⟨Nat.le_of_ble_eq_true rfl, Nat.le_of_ble_eq_true rfl⟩) (wp_V hP hK hD hN [0, 1] (by decide) rfl (ci := 7) rfl rfl) rfl rfl hl.1 rfl (lv_room (Nat.le_of_ble_eq_true rfl)) dX8_keepsAway_2 ⟨Nat.le_of_ble_eq_true rfl, Nat.le_of_ble_eq_true rfl⟩) hP hD hS hA [0, 1] [] rfl rfl (by decide) (by decide) (fun r_1 u_1 H locs hw_1 hP hD hS => ?_)
  clear k_1
  have hP : va_P D kl [(h, .inr (7, [.ref sl, .int na, .ref zs, .ref ln, .ref ir, .ref tk, .int su, .int le, .ref tb, .int fu, .int ap, .int pp, .ref tr, .int tc, .ref fz, .int nm])), (sl, .inl (cI, 1653, .inl sf))] H := hP
  have hD : va_D A [(h, .inr (7, [.ref sl, .int na, .ref zs, .ref ln, .ref ir, .ref tk, .int su, .int le, .ref tb, .int fu, .int ap, .int pp, .ref tr, .int tc, .ref fz, .int nm])), (sl, .inl (cI, 1653, .inl sf))] := hD
  have c1_0 := hw_1
  rcases c1_0 with ⟨e_1, f_1⟩ | e_1
  · subst e_1
    have f_1 : 0 ≤ v.toInt ∧ v.toInt ≤ 7 ∧ v.toInt < v0 := f_1
    refine lv_if_eq (tgt := 30) hx hb dX8_keepsAway_5 (by decide) (fun c9 => absurd c9 (by decide)) (fun _ => ?_)
    refine lv_iload_n hx hb dX8_keepsAway_8 rfl (lv_at hl 2 rfl) ?_
    refine lv_i2l (v := (n.toInt64)) hx hb dX8_keepsAway_9 rfl ?_
    refine lv_lconst (v := 1) hx hb dX8_keepsAway_10 (by decide) ?_
    refine lv_ldc2 (v := 100) hx hb hown (hts (.constantLong RX8 160 (100)) (List.mem_of_getElem? (i := 1) rfl)) dX8_keepsAway_11 ?_
    have k_2 := (g_X8_in l D cI cB cQ H.size (n.toInt64) 1 100)
    refine wc_i (WC := []) (WR := [(h, .inr (7, [.ref sl, .int na, .ref zs, .ref ln, .ref ir, .ref tk, .int su, .int le, .ref tb, .int fu, .int ap, .int pp, .ref tr, .int tc, .ref fz, .int nm])), (sl, .inl (cI, 1653, .inl sf))]) (va_runS (As := [.long (n.toInt64), .long 1, .long 100]) (rest := []) ⟨hx, hb, hml, hown, hts⟩ k_2 (va_cwS 3 hts gX8_keepsAway_X8_in rfl rfl rfl (by decide +kernel) ⟨Nat.le_of_ble_eq_true rfl, Nat.le_of_ble_eq_true rfl⟩) (wp_S hP hK hD hN [] (by decide) rfl) rfl rfl hl.1 rfl (lv_room (Nat.le_of_ble_eq_true rfl)) dX8_keepsAway_14 ⟨Nat.le_of_ble_eq_true rfl, Nat.le_of_ble_eq_true rfl⟩) hP hD hS hA [] [0, 1] rfl rfl (by decide) (by decide) (fun r_2 u_2 H locs hw_2 hP hD hS => ?_)
    clear k_2
    have hP : va_P D kl [(h, .inr (7, [.ref sl, .int na, .ref zs, .ref ln, .ref ir, .ref tk, .int su, .int le, .ref tb, .int fu, .int ap, .int pp, .ref tr, .int tc, .ref fz, .int nm])), (sl, .inl (cI, 1653, .inl sf))] H := hP
    have hD : va_D A [(h, .inr (7, [.ref sl, .int na, .ref zs, .ref ln, .ref ir, .ref tk, .int su, .int le, .ref tb, .int fu, .int ap, .int pp, .ref tr, .int tc, .ref fz, .int nm])), (sl, .inl (cI, 1653, .inl sf))] := hD
    have c2_0 := hw_2
    rcases c2_0 with ⟨e_2, f_2⟩ | ⟨e_2, f_2⟩
    · subst e_2
      have f_2 : (1 : Int) ≤ n.toInt ∧ n.toInt ≤ (100 : Int) := by
        have h8 := f_2
        try simp only [zl_of] at h8
        exact h8
      refine lv_if_eq (tgt := 30) hx hb dX8_keepsAway_17 (by decide) (fun c9 => absurd c9 (by decide)) (fun _ => ?_)
      refine lv_iload_n hx hb dX8_keepsAway_20 rfl (lv_at hl 3 rfl) ?_
      refine lv_i2l (v := (k.toInt64)) hx hb dX8_keepsAway_21 rfl ?_
      refine lv_lconst (v := 0) hx hb dX8_keepsAway_22 (by decide) ?_
      refine lv_lconst (v := 1) hx hb dX8_keepsAway_23 (by decide) ?_
      have k_3 := (g_X8_in l D cI cB cQ H.size (k.toInt64) 0 1)
      refine wc_i (WC := []) (WR := [(h, .inr (7, [.ref sl, .int na, .ref zs, .ref ln, .ref ir, .ref tk, .int su, .int le, .ref tb, .int fu, .int ap, .int pp, .ref tr, .int tc, .ref fz, .int nm])), (sl, .inl (cI, 1653, .inl sf))]) (va_runS (As := [.long (k.toInt64), .long 0, .long 1]) (rest := []) ⟨hx, hb, hml, hown, hts⟩ k_3 (va_cwS 3 hts gX8_keepsAway_X8_in rfl rfl rfl (by decide +kernel) ⟨Nat.le_of_ble_eq_true rfl, Nat.le_of_ble_eq_true rfl⟩) (wp_S hP hK hD hN [] (by decide) rfl) rfl rfl hl.1 rfl (lv_room (Nat.le_of_ble_eq_true rfl)) dX8_keepsAway_24 ⟨Nat.le_of_ble_eq_true rfl, Nat.le_of_ble_eq_true rfl⟩) hP hD hS hA [] [0, 1] rfl rfl (by decide) (by decide) (fun r_3 u_3 H locs hw_3 hP hD hS => ?_)
      clear k_3
      have hP : va_P D kl [(h, .inr (7, [.ref sl, .int na, .ref zs, .ref ln, .ref ir, .ref tk, .int su, .int le, .ref tb, .int fu, .int ap, .int pp, .ref tr, .int tc, .ref fz, .int nm])), (sl, .inl (cI, 1653, .inl sf))] H := hP
      have hD : va_D A [(h, .inr (7, [.ref sl, .int na, .ref zs, .ref ln, .ref ir, .ref tk, .int su, .int le, .ref tb, .int fu, .int ap, .int pp, .ref tr, .int tc, .ref fz, .int nm])), (sl, .inl (cI, 1653, .inl sf))] := hD
      have c3_0 := hw_3
      rcases c3_0 with ⟨e_3, f_3⟩ | ⟨e_3, f_3⟩
      · subst e_3
        have f_3 : (0 : Int) ≤ k.toInt ∧ k.toInt ≤ (1 : Int) := by
          have h8 := f_3
          try simp only [zl_of] at h8
          exact h8
        refine lv_if_ne (tgt := 33) hx hb dX8_keepsAway_27 (by decide) (fun _ => ?_) (fun c9 => absurd c9 (by decide))
        refine lv_iconst (v := 0) hx hb dX8_keepsAway_33 (by decide) ?_
        refine lv_istore (lv' := [(4, .int 0), (0, .ref h), (1, .int v), (2, .int n), (3, .int k)]) hx hb dX8_keepsAway_34 hl (by decide) rfl (fun ls hl => ?_)
        have hL36 : ∀ (nf : Nat) (t4_c36 : Int32) (g0_c36 : Nat → Int32) (H : Heap) (locs : List Loc) (ls : Array Slot), (0 ≤ t4_c36.toInt ∧ t4_c36.toInt ≤ 4) → (SI g0_c36 v0) → (FRM (1539) (1596) sf g0_c36) → (4 - t4_c36.toInt).toNat < nf → va_P D kl [(h, .inr (7, [.ref sl, .int na, .ref zs, .ref ln, .ref ir, .ref tk, .int su, .int le, .ref tb, .int fu, .int ap, .int pp, .ref tr, .int tc, .ref fz, .int nm])), (sl, .inl (cI, 1653, .inl g0_c36))] H → va_D A [(h, .inr (7, [.ref sl, .int na, .ref zs, .ref ln, .ref ir, .ref tk, .int su, .int le, .ref tb, .int fu, .int ap, .int pp, .ref tr, .int tc, .ref fz, .int nm])), (sl, .inl (cI, 1653, .inl g0_c36))] → va_S A s.heap H locs → lv_has ls 6 [(4, .int t4_c36), (0, .ref h), (1, .int v), (2, .int n), (3, .int k)] → W p l e ({ frames := 6, cells := 0, slots := 0, locals := 146 }) s m ([.ref h, .int v, .int n, .int k] : List Value).toArray below meth c H locs 0 0 (MQ below (va_Qi (fun (r : Int32) (u : (Nat → Int32)) => (FRM (1539) (1596) sf u) ∧ (SI u v0)) (fun u t => wb D A ((fun u => [(h, .inr (7, [.ref sl, .int na, .ref zs, .ref ln, .ref ir, .ref tk, .int su, .int le, .ref tb, .int fu, .int ap, .int pp, .ref tr, .int tc, .ref fz, .int nm])), (sl, .inl (cI, 1653, .inl u))]) u) t) A) ([.ref h, .int v, .int n, .int k] : List Value).toArray s 0 0 A) (F0 m 36 ls []) := by
          intro nf
          induction nf with
          | zero =>
            intro t4_c36 g0_c36 H locs ls i_t4_c36 ha_g0_c36 hf_c36 hm
            exact absurd hm (Nat.not_lt_zero _)
          | succ nf ih36 =>
            intro t4_c36 g0_c36 H locs ls i_t4_c36 ha_g0_c36 hf_c36 hm36 hP hD hS hl
            refine lv_iload hx hb dX8_keepsAway_36 (lv_at hl 0 rfl) ?_
            refine lv_iconst (v := 4) hx hb dX8_keepsAway_38 (by decide) ?_
            refine lv_icmp_ge (tgt := 134) hx hb dX8_keepsAway_39 (by decide) (fun c_4 => ?_) (fun c_4 => ?_)
            · have f_4 : 4 ≤ t4_c36.toInt := zi_le c_4
              refine lv_ldc (v := (-1000000)) hx hb hown (hts (.constant RX8 99 (-1000000)) (List.mem_of_getElem? (i := 4) rfl)) dX8_keepsAway_134 ?_
              exact wr_i (v := (-1000000)) hx hb hr hlocks hS g0_c36 (by exact ⟨show FRM (1539) (1596) sf g0_c36 from hf_c36, ha_g0_c36⟩) (hP.sub [0, 1] rfl) (hD.sub [0, 1] (by decide) rfl) dX8_keepsAway_136
            · have f_4 : ¬ 4 ≤ t4_c36.toInt := zi_nle c_4
              refine lv_iconst (v := 0) hx hb dX8_keepsAway_42 (by decide) ?_
              refine lv_istore (lv' := [(5, .int 0), (4, .int t4_c36), (0, .ref h), (1, .int v), (2, .int n), (3, .int k)]) hx hb dX8_keepsAway_43 hl (by decide) rfl (fun ls hl => ?_)
              have hL45 : ∀ (nf : Nat) (t5_c45 : Int32) (g0_c45 : Nat → Int32) (H : Heap) (locs : List Loc) (ls : Array Slot), (0 ≤ t5_c45.toInt ∧ t5_c45.toInt ≤ 256) → (SI g0_c45 v0) → (FRM (1539) (1596) sf g0_c45) → (256 - t5_c45.toInt).toNat < nf → va_P D kl [(h, .inr (7, [.ref sl, .int na, .ref zs, .ref ln, .ref ir, .ref tk, .int su, .int le, .ref tb, .int fu, .int ap, .int pp, .ref tr, .int tc, .ref fz, .int nm])), (sl, .inl (cI, 1653, .inl g0_c45))] H → va_D A [(h, .inr (7, [.ref sl, .int na, .ref zs, .ref ln, .ref ir, .ref tk, .int su, .int le, .ref tb, .int fu, .int ap, .int pp, .ref tr, .int tc, .ref fz, .int nm])), (sl, .inl (cI, 1653, .inl g0_c45))] → va_S A s.heap H locs → lv_has ls 6 [(5, .int t5_c45), (4, .int t4_c36), (0, .ref h), (1, .int v), (2, .int n), (3, .int k)] → W p l e ({ frames := 6, cells := 0, slots := 0, locals := 146 }) s m ([.ref h, .int v, .int n, .int k] : List Value).toArray below meth c H locs 0 0 (MQ below (va_Qi (fun (r : Int32) (u : (Nat → Int32)) => (FRM (1539) (1596) sf u) ∧ (SI u v0)) (fun u t => wb D A ((fun u => [(h, .inr (7, [.ref sl, .int na, .ref zs, .ref ln, .ref ir, .ref tk, .int su, .int le, .ref tb, .int fu, .int ap, .int pp, .ref tr, .int tc, .ref fz, .int nm])), (sl, .inl (cI, 1653, .inl u))]) u) t) A) ([.ref h, .int v, .int n, .int k] : List Value).toArray s 0 0 A) (F0 m 45 ls []) := by
                intro nf
                induction nf with
                | zero =>
                  intro t5_c45 g0_c45 H locs ls i_t5_c45 ha_g0_c45 hf_c45 hm
                  exact absurd hm (Nat.not_lt_zero _)
                | succ nf ih45 =>
                  intro t5_c45 g0_c45 H locs ls i_t5_c45 ha_g0_c45 hf_c45 hm45 hP hD hS hl
                  refine lv_iload hx hb dX8_keepsAway_45 (lv_at hl 0 rfl) ?_
                  refine lv_iconst (v := 1) hx hb dX8_keepsAway_47 (by decide) ?_
                  refine lv_aload_n hx hb dX8_keepsAway_48 rfl (lv_at hl 2 rfl) ?_
                  refine va_get (D := D) (ci := 7) (v := .ref sl) (C := RX8) (T := TX8) (N := 16) hx hb hts (fun _ h => List.mem_cons_of_mem _ (List.mem_append_right _ h)) hown hK hP 0 rfl rfl 0 (by decide) (hts (.fieldLink RX8 7 "WinterWalkModel" "slot" "[I") (List.mem_of_getElem? (i := 3) rfl)) (fun _ h9 => h9) rfl dX8_keepsAway_49 ?_
                  refine lv_iconst (v := 1) hx hb dX8_keepsAway_52 (by decide) ?_
                  refine va_iald hx hb hK hP 1 0 rfl rfl (zi_in (by decide) (by decide)) dX8_keepsAway_53 ?_
                  refine lv_topi (fun x_5 ex_5 => ?_)
                  have f_5 : 0 ≤ x_5.toInt ∧ x_5.toInt ≤ 8 := by rw [ex_5]; exact si_v ha_g0_c45 (s := 0) (by decide) (by omega)
                  have g_5 : x_5.toInt = v0 := by rw [ex_5]; exact ha_g0_c45.2
                  refine lv_ishl hx hb dX8_keepsAway_54 ?_
                  refine lv_topi (fun x_6 ex_6 => ?_)
                  have e_6 : 1 ≤ x_6.toInt ∧ x_6.toInt ≤ 256 := by rw [ex_6]; exact zi_sh (by omega)
                  clear ex_6
                  refine lv_icmp_ge (tgt := 128) hx hb dX8_keepsAway_55 (by decide) (fun c_7 => ?_) (fun c_7 => ?_)
                  · have f_7 : x_6.toInt ≤ t5_c45.toInt := zi_le c_7
                    obtain ⟨x_8, ex_8⟩ : ∃ y : Int32, y = t4_c36 + Int32.ofInt 1 := ⟨_, rfl⟩
                    refine lv_iinc (v := x_8) (lv' := [(4, .int x_8), (5, .int t5_c45), (0, .ref h), (1, .int v), (2, .int n), (3, .int k)]) hx hb dX8_keepsAway_128 hl (k := 1) rfl ex_8.symm (by decide) rfl (fun ls hl => ?_)
                    have ex_8 : x_8 = t4_c36 + 1 := ex_8
                    have e_8 : x_8.toInt = t4_c36.toInt + 1 := by rw [ex_8]; exact zi_add (rfl) (by decide) (by omega) (by omega)
                    clear ex_8
                    refine lv_goto (tgt := 36) hx hb dX8_keepsAway_131 (by decide) ?_
                    exact ih36 x_8 g0_c45 _ _ _ (show 0 ≤ x_8.toInt ∧ x_8.toInt ≤ 4 from by omega) ha_g0_c45 hf_c45 (by omega) (hP.sub [0, 1] rfl) (hD.sub [0, 1] (by decide) rfl) hS (lv_sub hl [0, 2, 3, 4, 5] rfl)
                  · have f_7 : ¬ x_6.toInt ≤ t5_c45.toInt := zi_nle c_7
                    refine lv_iload hx hb dX8_keepsAway_58 (lv_at hl 0 rfl) ?_
                    have k_9 := (g_X8_many l D cI cB cQ H.size t5_c45)
                    refine wc_i (WC := []) (WR := [(h, .inr (7, [.ref sl, .int na, .ref zs, .ref ln, .ref ir, .ref tk, .int su, .int le, .ref tb, .int fu, .int ap, .int pp, .ref tr, .int tc, .ref fz, .int nm])), (sl, .inl (cI, 1653, .inl g0_c45))]) (va_runS (As := [.int t5_c45]) (rest := []) ⟨hx, hb, hml, hown, hts⟩ k_9 (va_cwS 1 hts gX8_keepsAway_X8_many rfl rfl rfl (by decide +kernel) ⟨Nat.le_of_ble_eq_true rfl, Nat.le_of_ble_eq_true rfl⟩) (wp_S hP hK hD hN [] (by decide) rfl) rfl rfl hl.1 rfl (lv_room (Nat.le_of_ble_eq_true rfl)) dX8_keepsAway_60 ⟨Nat.le_of_ble_eq_true rfl, Nat.le_of_ble_eq_true rfl⟩) hP hD hS hA [] [0, 1] rfl rfl (by decide) (by decide) (fun r_9 u_9 H locs hw_9 hP hD hS => ?_)
                    clear k_9
                    have hP : va_P D kl [(h, .inr (7, [.ref sl, .int na, .ref zs, .ref ln, .ref ir, .ref tk, .int su, .int le, .ref tb, .int fu, .int ap, .int pp, .ref tr, .int tc, .ref fz, .int nm])), (sl, .inl (cI, 1653, .inl g0_c45))] H := hP
                    have hD : va_D A [(h, .inr (7, [.ref sl, .int na, .ref zs, .ref ln, .ref ir, .ref tk, .int su, .int le, .ref tb, .int fu, .int ap, .int pp, .ref tr, .int tc, .ref fz, .int nm])), (sl, .inl (cI, 1653, .inl g0_c45))] := hD
                    clear hw_9
                    refine lv_iload hx hb dX8_keepsAway_63 (lv_at hl 1 rfl) ?_
                    refine lv_icmp_ne (tgt := 122) hx hb dX8_keepsAway_65 (by decide) (fun c_10 => ?_) (fun c_10 => ?_)
                    · have f_10 : ¬ r_9.toInt = t4_c36.toInt := zi_ne c_10
                      obtain ⟨x_11, ex_11⟩ : ∃ y : Int32, y = t5_c45 + Int32.ofInt 1 := ⟨_, rfl⟩
                      refine lv_iinc (v := x_11) (lv' := [(5, .int x_11), (4, .int t4_c36), (0, .ref h), (1, .int v), (2, .int n), (3, .int k)]) hx hb dX8_keepsAway_122 hl (k := 0) rfl ex_11.symm (by decide) rfl (fun ls hl => ?_)
                      have ex_11 : x_11 = t5_c45 + 1 := ex_11
                      have e_11 : x_11.toInt = t5_c45.toInt + 1 := by rw [ex_11]; exact zi_add (rfl) (by decide) (by omega) (by omega)
                      clear ex_11
                      refine lv_goto (tgt := 45) hx hb dX8_keepsAway_125 (by decide) ?_
                      exact ih45 x_11 g0_c45 _ _ _ (show 0 ≤ x_11.toInt ∧ x_11.toInt ≤ 256 from by omega) ha_g0_c45 hf_c45 (by omega) (hP.sub [0, 1] rfl) (hD.sub [0, 1] (by decide) rfl) hS (lv_sub hl [0, 1, 2, 3, 4, 5] rfl)
                    · have f_10 : r_9.toInt = t4_c36.toInt := zi_eq c_10
                      refine lv_iload hx hb dX8_keepsAway_68 (lv_at hl 0 rfl) ?_
                      refine lv_aload_n hx hb dX8_keepsAway_70 rfl (lv_at hl 2 rfl) ?_
                      refine va_get (D := D) (ci := 7) (v := .ref sl) (C := RX8) (T := TX8) (N := 16) hx hb hts (fun _ h => List.mem_cons_of_mem _ (List.mem_append_right _ h)) hown hK hP 0 rfl rfl 0 (by decide) (hts (.fieldLink RX8 7 "WinterWalkModel" "slot" "[I") (List.mem_of_getElem? (i := 3) rfl)) (fun _ h9 => h9) rfl dX8_keepsAway_71 ?_
                      refine lv_bipush (v := 31) hx hb dX8_keepsAway_74 (by decide) ?_
                      refine va_iald hx hb hK hP 1 0 rfl rfl (zi_in (by decide) (by decide)) dX8_keepsAway_76 ?_
                      refine lv_topi (fun x_12 ex_12 => ?_)
                      refine lv_iand hx hb dX8_keepsAway_77 ?_
                      refine lv_topi (fun x_13 ex_13 => ?_)
                      clear ex_13
                      refine lv_if_ne (tgt := 122) hx hb dX8_keepsAway_78 (by decide) (fun c_14 => ?_) (fun c_14 => ?_)
                      · have f_14 : ¬ x_13.toInt = 0 := zi_ne c_14
                        obtain ⟨x_15, ex_15⟩ : ∃ y : Int32, y = t5_c45 + Int32.ofInt 1 := ⟨_, rfl⟩
                        refine lv_iinc (v := x_15) (lv' := [(5, .int x_15), (4, .int t4_c36), (0, .ref h), (1, .int v), (2, .int n), (3, .int k)]) hx hb dX8_keepsAway_122 hl (k := 0) rfl ex_15.symm (by decide) rfl (fun ls hl => ?_)
                        have ex_15 : x_15 = t5_c45 + 1 := ex_15
                        have e_15 : x_15.toInt = t5_c45.toInt + 1 := by rw [ex_15]; exact zi_add (rfl) (by decide) (by omega) (by omega)
                        clear ex_15
                        refine lv_goto (tgt := 45) hx hb dX8_keepsAway_125 (by decide) ?_
                        exact ih45 x_15 g0_c45 _ _ _ (show 0 ≤ x_15.toInt ∧ x_15.toInt ≤ 256 from by omega) ha_g0_c45 hf_c45 (by omega) (hP.sub [0, 1] rfl) (hD.sub [0, 1] (by decide) rfl) hS (lv_sub hl [0, 1, 2, 3, 4, 5] rfl)
                      · have f_14 : x_13.toInt = 0 := zi_eq c_14
                        refine lv_aload_n hx hb dX8_keepsAway_81 rfl (lv_at hl 2 rfl) ?_
                        refine lv_iconst (v := 0) hx hb dX8_keepsAway_82 (by decide) ?_
                        refine lv_bipush (v := 27) hx hb dX8_keepsAway_83 (by decide) ?_
                        have k_16 := (f_X8_copies l D cI cB cQ H.size h sl zs ln ir tk tb tr fz na su le fu ap pp tc nm 0 27 g0_c45 v0 ha_g0_c45 ⟨by decide, by decide⟩ ⟨by decide, by decide⟩ (by have hk0 : (0 : Int32).toInt = 0 := (by decide); have hk1 : (27 : Int32).toInt = 27 := (by decide); omega))
                        refine wc_v (WC := [(h, .inr (7, [.ref sl, .int na, .ref zs, .ref ln, .ref ir, .ref tk, .int su, .int le, .ref tb, .int fu, .int ap, .int pp, .ref tr, .int tc, .ref fz, .int nm])), (sl, .inl (cI, 1653, .inl g0_c45))]) (WR := []) (va_runV (As := [.int 0, .int 27]) (rest := []) ⟨hx, hb, hml, hown, hts⟩ k_16 (cwV 2 hts gX8_keepsAway_X8_copies rfl rfl rfl (by decide +kernel) ⟨Nat.le_of_ble_eq_true rfl, Nat.le_of_ble_eq_true rfl⟩) (wp_V hP hK hD hN [0, 1] (by decide) rfl (ci := 7) rfl rfl) rfl rfl hl.1 rfl (lv_room (Nat.le_of_ble_eq_true rfl)) dX8_keepsAway_85 ⟨Nat.le_of_ble_eq_true rfl, Nat.le_of_ble_eq_true rfl⟩) hP hD hS hA [0, 1] [] rfl rfl (by decide) (by decide) (fun u_16 H locs hw_16 hP hD hS => ?_)
                        clear k_16
                        have hP : va_P D kl [(h, .inr (7, [.ref sl, .int na, .ref zs, .ref ln, .ref ir, .ref tk, .int su, .int le, .ref tb, .int fu, .int ap, .int pp, .ref tr, .int tc, .ref fz, .int nm])), (sl, .inl (cI, 1653, .inl u_16))] H := hP
                        have hD : va_D A [(h, .inr (7, [.ref sl, .int na, .ref zs, .ref ln, .ref ir, .ref tk, .int su, .int le, .ref tb, .int fu, .int ap, .int pp, .ref tr, .int tc, .ref fz, .int nm])), (sl, .inl (cI, 1653, .inl u_16))] := hD
                        obtain ⟨c16_0, c16_1, c16_2⟩ := hw_16
                        have c16_0 : ∀ q : Nat, q < 57 → u_16 (57 * (27 : Int).toNat + q) = g0_c45 (57 * (0 : Int).toNat + q) := c16_0
                        have c16_1 : FRM ((57 * (27 : Int))) ((57 * (27 : Int) + 57)) g0_c45 u_16 := c16_1
                        have c16_2 : SI u_16 v0 := c16_2
                        have hf_16 : FRM (1539) (1596) sf u_16 := FRM.trans hf_c45 (FRM.sub c16_1 (by omega) (by omega))
                        refine lv_aload_n hx hb dX8_keepsAway_88 rfl (lv_at hl 2 rfl) ?_
                        refine va_get (D := D) (ci := 7) (v := .ref sl) (C := RX8) (T := TX8) (N := 16) hx hb hts (fun _ h => List.mem_cons_of_mem _ (List.mem_append_right _ h)) hown hK hP 0 rfl rfl 0 (by decide) (hts (.fieldLink RX8 7 "WinterWalkModel" "slot" "[I") (List.mem_of_getElem? (i := 3) rfl)) (fun _ h9 => h9) rfl dX8_keepsAway_89 ?_
                        refine lv_sipush (v := 1570) hx hb dX8_keepsAway_92 (by decide) ?_
                        refine lv_dup2_11 hx hb dX8_keepsAway_95 rfl rfl ?_
                        refine va_iald hx hb hK hP 1 0 rfl rfl (zi_in (by decide) (by decide)) dX8_keepsAway_96 ?_
                        refine lv_topi (fun x_17 ex_17 => ?_)
                        refine lv_iload hx hb dX8_keepsAway_97 (lv_at hl 0 rfl) ?_
                        refine lv_ior hx hb dX8_keepsAway_99 ?_
                        refine lv_topi (fun x_18 ex_18 => ?_)
                        clear ex_18
                        refine va_iast hx hb hK hP hD hS 1 0 rfl rfl (zi_in (by decide) (by decide)) dX8_keepsAway_100 (fun H locs hP hD hS => ?_)
                        have hP : va_P D kl [(h, .inr (7, [.ref sl, .int na, .ref zs, .ref ln, .ref ir, .ref tk, .int su, .int le, .ref tb, .int fu, .int ap, .int pp, .ref tr, .int tc, .ref fz, .int nm])), (sl, .inl (cI, 1653, .inl (upd u_16 (1570 : Int32).toNatClampNeg x_18)))] H := hP
                        have hD : va_D A [(h, .inr (7, [.ref sl, .int na, .ref zs, .ref ln, .ref ir, .ref tk, .int su, .int le, .ref tb, .int fu, .int ap, .int pp, .ref tr, .int tc, .ref fz, .int nm])), (sl, .inl (cI, 1653, .inl (upd u_16 (1570 : Int32).toNatClampNeg x_18)))] := hD
                        have hq_19 : (1570 : Int32).toInt = 1570 := by decide
                        have ha_19 : SI (upd u_16 (1570 : Int32).toNatClampNeg x_18) v0 := si_up c16_2 (by omega) (fun s0 a0 b0 e0 => by omega) (fun s0 a0 b0 e0 => by omega) (fun s0 k0 a0 b0 c0 d0 e0 => by omega) (by omega)
                        have hi_20 : (1570 : Int32).toInt = 1570 := by decide
                        have hf_20 : FRM (1539) (1596) sf (upd u_16 (1570 : Int32).toNatClampNeg x_18) := FRM.up hf_16 (by omega)
                        refine lv_aload_n hx hb dX8_keepsAway_101 rfl (lv_at hl 2 rfl) ?_
                        refine lv_iload_n hx hb dX8_keepsAway_102 rfl (lv_at hl 3 rfl) ?_
                        refine lv_iload_n hx hb dX8_keepsAway_103 rfl (lv_at hl 4 rfl) ?_
                        have k_21 := (f_X8_isSlept l D cI cB cQ H.size h sl zs ln ir tk tb tr fz na su le fu ap pp tc nm v n (upd u_16 (1570 : Int32).toNatClampNeg x_18) v0 ha_19 (by omega) (by omega))
                        refine wc_i (WC := [(h, .inr (7, [.ref sl, .int na, .ref zs, .ref ln, .ref ir, .ref tk, .int su, .int le, .ref tb, .int fu, .int ap, .int pp, .ref tr, .int tc, .ref fz, .int nm])), (sl, .inl (cI, 1653, .inl (upd u_16 (1570 : Int32).toNatClampNeg x_18)))]) (WR := []) (va_runV (As := [.int v, .int n]) (rest := []) ⟨hx, hb, hml, hown, hts⟩ k_21 (cwV 2 hts gX8_keepsAway_X8_isSlept rfl rfl rfl (by decide +kernel) ⟨Nat.le_of_ble_eq_true rfl, Nat.le_of_ble_eq_true rfl⟩) (wp_V hP hK hD hN [0, 1] (by decide) rfl (ci := 7) rfl rfl) rfl rfl hl.1 rfl (lv_room (Nat.le_of_ble_eq_true rfl)) dX8_keepsAway_104 ⟨Nat.le_of_ble_eq_true rfl, Nat.le_of_ble_eq_true rfl⟩) hP hD hS hA [0, 1] [] rfl rfl (by decide) (by decide) (fun r_21 u_21 H locs hw_21 hP hD hS => ?_)
                        clear k_21
                        have hP : va_P D kl [(h, .inr (7, [.ref sl, .int na, .ref zs, .ref ln, .ref ir, .ref tk, .int su, .int le, .ref tb, .int fu, .int ap, .int pp, .ref tr, .int tc, .ref fz, .int nm])), (sl, .inl (cI, 1653, .inl u_21))] H := hP
                        have hD : va_D A [(h, .inr (7, [.ref sl, .int na, .ref zs, .ref ln, .ref ir, .ref tk, .int su, .int le, .ref tb, .int fu, .int ap, .int pp, .ref tr, .int tc, .ref fz, .int nm])), (sl, .inl (cI, 1653, .inl u_21))] := hD
                        obtain ⟨c21_0, c21_1, c21_2⟩ := hw_21
                        have c21_1 : FRM (1539) (1596) (upd u_16 (1570 : Int32).toNatClampNeg x_18) u_21 := c21_1
                        have c21_2 : SI u_21 v0 := c21_2
                        have hf_21 : FRM (1539) (1596) sf u_21 := FRM.trans hf_20 (FRM.sub c21_1 (by omega) (by omega))
                        rcases c21_0 with e_21 | e_21
                        · subst e_21
                          refine lv_if_ne (tgt := 122) hx hb dX8_keepsAway_107 (by decide) (fun _ => ?_) (fun c9 => absurd c9 (by decide))
                          obtain ⟨x_22, ex_22⟩ : ∃ y : Int32, y = t5_c45 + Int32.ofInt 1 := ⟨_, rfl⟩
                          refine lv_iinc (v := x_22) (lv' := [(5, .int x_22), (4, .int t4_c36), (0, .ref h), (1, .int v), (2, .int n), (3, .int k)]) hx hb dX8_keepsAway_122 hl (k := 0) rfl ex_22.symm (by decide) rfl (fun ls hl => ?_)
                          have ex_22 : x_22 = t5_c45 + 1 := ex_22
                          have e_22 : x_22.toInt = t5_c45.toInt + 1 := by rw [ex_22]; exact zi_add (rfl) (by decide) (by omega) (by omega)
                          clear ex_22
                          refine lv_goto (tgt := 45) hx hb dX8_keepsAway_125 (by decide) ?_
                          exact ih45 x_22 u_21 _ _ _ (show 0 ≤ x_22.toInt ∧ x_22.toInt ≤ 256 from by omega) c21_2 hf_21 (by omega) (hP.sub [0, 1] rfl) (hD.sub [0, 1] (by decide) rfl) hS (lv_sub hl [0, 1, 2, 3, 4, 5] rfl)
                        · subst e_21
                          refine lv_if_ne (tgt := 122) hx hb dX8_keepsAway_107 (by decide) (fun c9 => absurd (by decide) c9) (fun _ => ?_)
                          refine lv_iload_n hx hb dX8_keepsAway_110 rfl (lv_at hl 5 rfl) ?_
                          refine lv_if_ne (tgt := 119) hx hb dX8_keepsAway_111 (by decide) (fun c_23 => ?_) (fun c_23 => ?_)
                          · have f_23 : ¬ k.toInt = 0 := zi_ne c_23
                            refine lv_iload hx hb dX8_keepsAway_119 (lv_at hl 0 rfl) ?_
                            exact wr_i (v := t5_c45) hx hb hr hlocks hS u_21 (by exact ⟨show FRM (1539) (1596) sf u_21 from hf_21, c21_2⟩) (hP.sub [0, 1] rfl) (hD.sub [0, 1] (by decide) rfl) dX8_keepsAway_121
                          · have f_23 : k.toInt = 0 := zi_eq c_23
                            refine lv_iload hx hb dX8_keepsAway_114 (lv_at hl 1 rfl) ?_
                            refine lv_goto (tgt := 121) hx hb dX8_keepsAway_116 (by decide) ?_
                            exact wr_i (v := t4_c36) hx hb hr hlocks hS u_21 (by exact ⟨show FRM (1539) (1596) sf u_21 from hf_21, c21_2⟩) (hP.sub [0, 1] rfl) (hD.sub [0, 1] (by decide) rfl) dX8_keepsAway_121
              exact hL45 (((256 - (0 : Int32).toInt).toNat) + 1) 0 g0_c36 _ _ _ (show 0 ≤ 0 ∧ 0 ≤ 256 from by omega) ha_g0_c36 hf_c36 (Nat.lt_succ_self _) (hP.sub [0, 1] rfl) (hD.sub [0, 1] (by decide) rfl) hS (lv_sub hl [0, 1, 2, 3, 4, 5] rfl)
        exact hL36 (((4 - (0 : Int32).toInt).toNat) + 1) 0 sf _ _ _ (show 0 ≤ 0 ∧ 0 ≤ 4 from by omega) hsi FRM.refl (Nat.lt_succ_self _) (hP.sub [0, 1] rfl) (hD.sub [0, 1] (by decide) rfl) hS (lv_sub hl [0, 1, 2, 3, 4] rfl)
      · subst e_3
        have f_3 : ¬ ((0 : Int) ≤ k.toInt ∧ k.toInt ≤ (1 : Int)) := by
          have h8 := f_3
          try simp only [zl_of] at h8
          exact h8
        refine lv_if_ne (tgt := 33) hx hb dX8_keepsAway_27 (by decide) (fun c9 => absurd (by decide) c9) (fun _ => ?_)
        refine lv_ldc (v := (-1000001)) hx hb hown (hts (.constant RX8 48 (-1000001)) (List.mem_of_getElem? (i := 2) rfl)) dX8_keepsAway_30 ?_
        exact wr_i (v := (-1000001)) hx hb hr hlocks hS sf (by exact ⟨show FRM (1539) (1596) sf sf from FRM.refl, hsi⟩) (hP.sub [0, 1] rfl) (hD.sub [0, 1] (by decide) rfl) dX8_keepsAway_32
    · subst e_2
      have f_2 : ¬ ((1 : Int) ≤ n.toInt ∧ n.toInt ≤ (100 : Int)) := by
        have h8 := f_2
        try simp only [zl_of] at h8
        exact h8
      refine lv_if_eq (tgt := 30) hx hb dX8_keepsAway_17 (by decide) (fun _ => ?_) (fun c9 => absurd (by decide) c9)
      refine lv_ldc (v := (-1000001)) hx hb hown (hts (.constant RX8 48 (-1000001)) (List.mem_of_getElem? (i := 2) rfl)) dX8_keepsAway_30 ?_
      exact wr_i (v := (-1000001)) hx hb hr hlocks hS sf (by exact ⟨show FRM (1539) (1596) sf sf from FRM.refl, hsi⟩) (hP.sub [0, 1] rfl) (hD.sub [0, 1] (by decide) rfl) dX8_keepsAway_32
  · subst e_1
    refine lv_if_eq (tgt := 30) hx hb dX8_keepsAway_5 (by decide) (fun _ => ?_) (fun c9 => absurd (by decide) c9)
    refine lv_ldc (v := (-1000001)) hx hb hown (hts (.constant RX8 48 (-1000001)) (List.mem_of_getElem? (i := 2) rfl)) dX8_keepsAway_30 ?_
    exact wr_i (v := (-1000001)) hx hb hr hlocks hS sf (by exact ⟨show FRM (1539) (1596) sf sf from FRM.refl, hsi⟩) (hP.sub [0, 1] rfl) (hD.sub [0, 1] (by decide) rfl) dX8_keepsAway_32
set_option maxHeartbeats 4000000 in
set_option maxRecDepth 100000 in
theorem f_X8_hasBy (l : Launch) (D : va_G) (cI cB cQ : ClassId) (sz : Nat) (h : Nat) (sl : Nat) (zs : Nat) (ln : Nat) (ir : Nat) (tk : Nat) (tb : Nat) (tr : Nat) (fz : Nat) (na : Int32) (su : Int32) (le : Int32) (fu : Int32) (ap : Int32) (pp : Int32) (tc : Int32) (nm : Int32) (v : Int32) (b : Int32) (n : Int32) (sf : Nat → Int32) (v0 : Int) (hsi : SI sf v0) (h_v : 0 ≤ v.toInt ∧ v.toInt ≤ 7) (h_n : 0 ≤ n.toInt ∧ n.toInt ≤ 100) : mi l yX8_hasBy wsX8_hasBy ({ frames := 5, cells := 0, slots := 0, locals := 122 }) D cI cB cQ [.ref h, .int v, .int b, .int n] sz [(h, .inr (7, [.ref sl, .int na, .ref zs, .ref ln, .ref ir, .ref tk, .int su, .int le, .ref tb, .int fu, .int ap, .int pp, .ref tr, .int tc, .ref fz, .int nm])), (sl, .inl (cI, 1653, .inl sf))] (fun (r : Int32) (u : (Nat → Int32)) => (FRM (1539) (1596) sf u) ∧ (SI u v0)) (fun u => [(h, .inr (7, [.ref sl, .int na, .ref zs, .ref ln, .ref ir, .ref tk, .int su, .int le, .ref tb, .int fu, .int ap, .int pp, .ref tr, .int tc, .ref fz, .int nm])), (sl, .inl (cI, 1653, .inl u))]) 0 0 := by
  refine wm_i (cc := cX8_hasBy) (maxL := 8) (ret := (some .int)) (by decide) rfl (Nat.le_of_ble_eq_true rfl) ?_
  intro p e s m below meth c A ls hx hb hr hml hown hts hlocks hin hP hK hD hN hA hl hS
  have hown : s.vm.findClass RX8 = some m.cls := hown
  have hl : lv_has ls 8 [(0, .ref h), (1, .int v), (2, .int b), (3, .int n)] := hl
  change W p l e ({ frames := 5, cells := 0, slots := 0, locals := 122 }) s m ([.ref h, .int v, .int b, .int n] : List Value).toArray below meth c s.heap [] 0 0 (MQ below (va_Qi (fun (r : Int32) (u : (Nat → Int32)) => (FRM (1539) (1596) sf u) ∧ (SI u v0)) (fun u t => wb D A ((fun u => [(h, .inr (7, [.ref sl, .int na, .ref zs, .ref ln, .ref ir, .ref tk, .int su, .int le, .ref tb, .int fu, .int ap, .int pp, .ref tr, .int tc, .ref fz, .int nm])), (sl, .inl (cI, 1653, .inl u))]) u) t) A) ([.ref h, .int v, .int b, .int n] : List Value).toArray s 0 0 A) (F0 m 0 ls [])
  refine lv_aload_n hx hb dX8_hasBy_0 rfl (lv_at hl 0 rfl) ?_
  refine lv_iconst (v := 0) hx hb dX8_hasBy_1 (by decide) ?_
  refine lv_bipush (v := 27) hx hb dX8_hasBy_2 (by decide) ?_
  have k_1 := (f_X8_copies l D cI cB cQ s.heap.size h sl zs ln ir tk tb tr fz na su le fu ap pp tc nm 0 27 sf v0 hsi ⟨by decide, by decide⟩ ⟨by decide, by decide⟩ (by have hk0 : (0 : Int32).toInt = 0 := (by decide); have hk1 : (27 : Int32).toInt = 27 := (by decide); omega))
  refine wc_v (WC := [(h, .inr (7, [.ref sl, .int na, .ref zs, .ref ln, .ref ir, .ref tk, .int su, .int le, .ref tb, .int fu, .int ap, .int pp, .ref tr, .int tc, .ref fz, .int nm])), (sl, .inl (cI, 1653, .inl sf))]) (WR := []) (va_runV (As := [.int 0, .int 27]) (rest := []) ⟨hx, hb, hml, hown, hts⟩ k_1 (cwV 2 hts gX8_hasBy_X8_copies rfl rfl rfl (by decide +kernel) ⟨Nat.le_of_ble_eq_true rfl, Nat.le_of_ble_eq_true rfl⟩) (wp_V hP hK hD hN [0, 1] (by decide) rfl (ci := 7) rfl rfl) rfl rfl hl.1 rfl (lv_room (Nat.le_of_ble_eq_true rfl)) dX8_hasBy_4 ⟨Nat.le_of_ble_eq_true rfl, Nat.le_of_ble_eq_true rfl⟩) hP hD hS hA [0, 1] [] rfl rfl (by decide) (by decide) (fun u_1 H locs hw_1 hP hD hS => ?_)
  clear k_1
  have hP : va_P D kl [(h, .inr (7, [.ref sl, .int na, .ref zs, .ref ln, .ref ir, .ref tk, .int su, .int le, .ref tb, .int fu, .int ap, .int pp, .ref tr, .int tc, .ref fz, .int nm])), (sl, .inl (cI, 1653, .inl u_1))] H := hP
  have hD : va_D A [(h, .inr (7, [.ref sl, .int na, .ref zs, .ref ln, .ref ir, .ref tk, .int su, .int le, .ref tb, .int fu, .int ap, .int pp, .ref tr, .int tc, .ref fz, .int nm])), (sl, .inl (cI, 1653, .inl u_1))] := hD
  obtain ⟨c1_0, c1_1, c1_2⟩ := hw_1
  have c1_0 : ∀ q : Nat, q < 57 → u_1 (57 * (27 : Int).toNat + q) = sf (57 * (0 : Int).toNat + q) := c1_0
  have c1_1 : FRM ((57 * (27 : Int))) ((57 * (27 : Int) + 57)) sf u_1 := c1_1
  have c1_2 : SI u_1 v0 := c1_2
  have hf_1 : FRM (1539) (1596) sf u_1 := FRM.trans FRM.refl (FRM.sub c1_1 (by omega) (by omega))
  refine lv_aload_n hx hb dX8_hasBy_7 rfl (lv_at hl 0 rfl) ?_
  refine va_get (D := D) (ci := 7) (v := .ref sl) (C := RX8) (T := TX8) (N := 16) hx hb hts (fun _ h => List.mem_cons_of_mem _ (List.mem_append_right _ h)) hown hK hP 0 rfl rfl 0 (by decide) (hts (.fieldLink RX8 7 "WinterWalkModel" "slot" "[I") (List.mem_of_getElem? (i := 1) rfl)) (fun _ h9 => h9) rfl dX8_hasBy_8 ?_
  refine lv_sipush (v := 1562) hx hb dX8_hasBy_11 (by decide) ?_
  refine lv_iload_n hx hb dX8_hasBy_14 rfl (lv_at hl 1 rfl) ?_
  refine lv_iadd hx hb dX8_hasBy_15 ?_
  refine lv_topi (fun x_2 ex_2 => ?_)
  have e_2 : x_2.toInt = 1562 + v.toInt := by rw [ex_2]; exact zi_add (by decide) (rfl) (by omega) (by omega)
  clear ex_2
  refine lv_iload_n hx hb dX8_hasBy_16 rfl (lv_at hl 2 rfl) ?_
  refine va_iast hx hb hK hP hD hS 1 0 rfl rfl (zi_in (by omega) (by omega)) dX8_hasBy_17 (fun H locs hP hD hS => ?_)
  have hP : va_P D kl [(h, .inr (7, [.ref sl, .int na, .ref zs, .ref ln, .ref ir, .ref tk, .int su, .int le, .ref tb, .int fu, .int ap, .int pp, .ref tr, .int tc, .ref fz, .int nm])), (sl, .inl (cI, 1653, .inl (upd u_1 (x_2 : Int32).toNatClampNeg b)))] H := hP
  have hD : va_D A [(h, .inr (7, [.ref sl, .int na, .ref zs, .ref ln, .ref ir, .ref tk, .int su, .int le, .ref tb, .int fu, .int ap, .int pp, .ref tr, .int tc, .ref fz, .int nm])), (sl, .inl (cI, 1653, .inl (upd u_1 (x_2 : Int32).toNatClampNeg b)))] := hD
  have ha_3 : SI (upd u_1 (x_2 : Int32).toNatClampNeg b) v0 := si_up c1_2 (by omega) (fun s0 a0 b0 e0 => by omega) (fun s0 a0 b0 e0 => by omega) (fun s0 k0 a0 b0 c0 d0 e0 => by omega) (by omega)
  have hf_4 : FRM (1539) (1596) sf (upd u_1 (x_2 : Int32).toNatClampNeg b) := FRM.up hf_1 (by omega)
  refine lv_iconst (v := 0) hx hb dX8_hasBy_18 (by decide) ?_
  refine lv_istore (lv' := [(4, .int 0), (0, .ref h), (1, .int v), (2, .int b), (3, .int n)]) hx hb dX8_hasBy_19 hl (by decide) rfl (fun ls hl => ?_)
  refine lv_iconst (v := 0) hx hb dX8_hasBy_21 (by decide) ?_
  refine lv_istore (lv' := [(5, .int 0), (4, .int 0), (0, .ref h), (1, .int v), (2, .int b), (3, .int n)]) hx hb dX8_hasBy_22 hl (by decide) rfl (fun ls hl => ?_)
  have hL24 : ∀ (nf : Nat) (t5_c24 : Int32) (t4_c24 : Int32) (g0_c24 : Nat → Int32) (H : Heap) (locs : List Loc) (ls : Array Slot), (0 ≤ t5_c24.toInt ∧ t5_c24.toInt ≤ 100) → (SI g0_c24 v0) → (FRM (1539) (1596) sf g0_c24) → (n.toInt - t5_c24.toInt).toNat < nf → va_P D kl [(h, .inr (7, [.ref sl, .int na, .ref zs, .ref ln, .ref ir, .ref tk, .int su, .int le, .ref tb, .int fu, .int ap, .int pp, .ref tr, .int tc, .ref fz, .int nm])), (sl, .inl (cI, 1653, .inl g0_c24))] H → va_D A [(h, .inr (7, [.ref sl, .int na, .ref zs, .ref ln, .ref ir, .ref tk, .int su, .int le, .ref tb, .int fu, .int ap, .int pp, .ref tr, .int tc, .ref fz, .int nm])), (sl, .inl (cI, 1653, .inl g0_c24))] → va_S A s.heap H locs → lv_has ls 8 [(5, .int t5_c24), (4, .int t4_c24), (0, .ref h), (1, .int v), (2, .int b), (3, .int n)] → W p l e ({ frames := 5, cells := 0, slots := 0, locals := 122 }) s m ([.ref h, .int v, .int b, .int n] : List Value).toArray below meth c H locs 0 0 (MQ below (va_Qi (fun (r : Int32) (u : (Nat → Int32)) => (FRM (1539) (1596) sf u) ∧ (SI u v0)) (fun u t => wb D A ((fun u => [(h, .inr (7, [.ref sl, .int na, .ref zs, .ref ln, .ref ir, .ref tk, .int su, .int le, .ref tb, .int fu, .int ap, .int pp, .ref tr, .int tc, .ref fz, .int nm])), (sl, .inl (cI, 1653, .inl u))]) u) t) A) ([.ref h, .int v, .int b, .int n] : List Value).toArray s 0 0 A) (F0 m 24 ls []) := by
    intro nf
    induction nf with
    | zero =>
      intro t5_c24 t4_c24 g0_c24 H locs ls i_t5_c24 ha_g0_c24 hf_c24 hm
      exact absurd hm (Nat.not_lt_zero _)
    | succ nf ih24 =>
      intro t5_c24 t4_c24 g0_c24 H locs ls i_t5_c24 ha_g0_c24 hf_c24 hm24 hP hD hS hl
      refine lv_iload hx hb dX8_hasBy_24 (lv_at hl 0 rfl) ?_
      refine lv_iload_n hx hb dX8_hasBy_26 rfl (lv_at hl 5 rfl) ?_
      refine lv_icmp_ge (tgt := 127) hx hb dX8_hasBy_27 (by decide) (fun c_5 => ?_) (fun c_5 => ?_)
      · have f_5 : n.toInt ≤ t5_c24.toInt := zi_le c_5
        refine lv_iload hx hb dX8_hasBy_127 (lv_at hl 1 rfl) ?_
        exact wr_i (v := t4_c24) hx hb hr hlocks hS g0_c24 (by exact ⟨show FRM (1539) (1596) sf g0_c24 from hf_c24, ha_g0_c24⟩) (hP.sub [0, 1] rfl) (hD.sub [0, 1] (by decide) rfl) dX8_hasBy_129
      · have f_5 : ¬ n.toInt ≤ t5_c24.toInt := zi_nle c_5
        refine lv_aload_n hx hb dX8_hasBy_30 rfl (lv_at hl 2 rfl) ?_
        refine lv_bipush (v := 27) hx hb dX8_hasBy_31 (by decide) ?_
        refine lv_iconst (v := (-1)) hx hb dX8_hasBy_33 (by decide) ?_
        have k_6 := (f_X8_day l D cI cB cQ H.size h sl zs ln ir tk tb tr fz na su le fu ap pp tc nm 27 (-1) g0_c24 v0 ha_g0_c24 ⟨by decide, by decide⟩)
        refine wc_v (WC := [(h, .inr (7, [.ref sl, .int na, .ref zs, .ref ln, .ref ir, .ref tk, .int su, .int le, .ref tb, .int fu, .int ap, .int pp, .ref tr, .int tc, .ref fz, .int nm])), (sl, .inl (cI, 1653, .inl g0_c24))]) (WR := []) (va_runV (As := [.int 27, .int (-1)]) (rest := []) ⟨hx, hb, hml, hown, hts⟩ k_6 (cwV 2 hts gX8_hasBy_X8_day rfl rfl rfl (by decide +kernel) ⟨Nat.le_of_ble_eq_true rfl, Nat.le_of_ble_eq_true rfl⟩) (wp_V hP hK hD hN [0, 1] (by decide) rfl (ci := 7) rfl rfl) rfl rfl hl.1 rfl (lv_room (Nat.le_of_ble_eq_true rfl)) dX8_hasBy_34 ⟨Nat.le_of_ble_eq_true rfl, Nat.le_of_ble_eq_true rfl⟩) hP hD hS hA [0, 1] [] rfl rfl (by decide) (by decide) (fun u_6 H locs hw_6 hP hD hS => ?_)
        clear k_6
        have hP : va_P D kl [(h, .inr (7, [.ref sl, .int na, .ref zs, .ref ln, .ref ir, .ref tk, .int su, .int le, .ref tb, .int fu, .int ap, .int pp, .ref tr, .int tc, .ref fz, .int nm])), (sl, .inl (cI, 1653, .inl u_6))] H := hP
        have hD : va_D A [(h, .inr (7, [.ref sl, .int na, .ref zs, .ref ln, .ref ir, .ref tk, .int su, .int le, .ref tb, .int fu, .int ap, .int pp, .ref tr, .int tc, .ref fz, .int nm])), (sl, .inl (cI, 1653, .inl u_6))] := hD
        obtain ⟨c6_0, c6_1⟩ := hw_6
        have c6_0 : FRM (57 * (27 : Int) + 31) (57 * (27 : Int) + 57) g0_c24 u_6 := c6_0
        have c6_1 : SI u_6 v0 := c6_1
        have hf_6 : FRM (1539) (1596) sf u_6 := FRM.trans hf_c24 (FRM.sub c6_0 (by omega) (by omega))
        refine lv_iconst (v := 0) hx hb dX8_hasBy_37 (by decide) ?_
        refine lv_istore (lv' := [(6, .int 0), (5, .int t5_c24), (4, .int t4_c24), (0, .ref h), (1, .int v), (2, .int b), (3, .int n)]) hx hb dX8_hasBy_38 hl (by decide) rfl (fun ls hl => ?_)
        have hL40 : ∀ (nf : Nat) (t6_c40 : Int32) (t4_c40 : Int32) (H : Heap) (locs : List Loc) (ls : Array Slot), (0 ≤ t6_c40.toInt ∧ t6_c40.toInt ≤ 3) → (3 - t6_c40.toInt).toNat < nf → va_P D kl [(h, .inr (7, [.ref sl, .int na, .ref zs, .ref ln, .ref ir, .ref tk, .int su, .int le, .ref tb, .int fu, .int ap, .int pp, .ref tr, .int tc, .ref fz, .int nm])), (sl, .inl (cI, 1653, .inl u_6))] H → va_D A [(h, .inr (7, [.ref sl, .int na, .ref zs, .ref ln, .ref ir, .ref tk, .int su, .int le, .ref tb, .int fu, .int ap, .int pp, .ref tr, .int tc, .ref fz, .int nm])), (sl, .inl (cI, 1653, .inl u_6))] → va_S A s.heap H locs → lv_has ls 8 [(6, .int t6_c40), (5, .int t5_c24), (4, .int t4_c40), (0, .ref h), (1, .int v), (2, .int b), (3, .int n)] → W p l e ({ frames := 5, cells := 0, slots := 0, locals := 122 }) s m ([.ref h, .int v, .int b, .int n] : List Value).toArray below meth c H locs 0 0 (MQ below (va_Qi (fun (r : Int32) (u : (Nat → Int32)) => (FRM (1539) (1596) sf u) ∧ (SI u v0)) (fun u t => wb D A ((fun u => [(h, .inr (7, [.ref sl, .int na, .ref zs, .ref ln, .ref ir, .ref tk, .int su, .int le, .ref tb, .int fu, .int ap, .int pp, .ref tr, .int tc, .ref fz, .int nm])), (sl, .inl (cI, 1653, .inl u))]) u) t) A) ([.ref h, .int v, .int b, .int n] : List Value).toArray s 0 0 A) (F0 m 40 ls []) := by
          intro nf
          induction nf with
          | zero =>
            intro t6_c40 t4_c40 H locs ls i_t6_c40 hm
            exact absurd hm (Nat.not_lt_zero _)
          | succ nf ih40 =>
            intro t6_c40 t4_c40 H locs ls i_t6_c40 hm40 hP hD hS hl
            refine lv_iload hx hb dX8_hasBy_40 (lv_at hl 0 rfl) ?_
            refine lv_aload_n hx hb dX8_hasBy_42 rfl (lv_at hl 3 rfl) ?_
            refine va_get (D := D) (ci := 7) (v := .ref sl) (C := RX8) (T := TX8) (N := 16) hx hb hts (fun _ h => List.mem_cons_of_mem _ (List.mem_append_right _ h)) hown hK hP 0 rfl rfl 0 (by decide) (hts (.fieldLink RX8 7 "WinterWalkModel" "slot" "[I") (List.mem_of_getElem? (i := 1) rfl)) (fun _ h9 => h9) rfl dX8_hasBy_43 ?_
            refine lv_iconst (v := 2) hx hb dX8_hasBy_46 (by decide) ?_
            refine va_iald hx hb hK hP 1 0 rfl rfl (zi_in (by decide) (by decide)) dX8_hasBy_47 ?_
            refine lv_topi (fun x_7 ex_7 => ?_)
            have f_7 : 0 ≤ x_7.toInt ∧ x_7.toInt ≤ 3 := by rw [ex_7]; exact si_w c6_1 (s := 0) (by decide) (by omega)
            refine lv_icmp_ge (tgt := 121) hx hb dX8_hasBy_48 (by decide) (fun c_8 => ?_) (fun c_8 => ?_)
            · have f_8 : x_7.toInt ≤ t6_c40.toInt := zi_le c_8
              obtain ⟨x_9, ex_9⟩ : ∃ y : Int32, y = t5_c24 + Int32.ofInt 1 := ⟨_, rfl⟩
              refine lv_iinc (v := x_9) (lv' := [(5, .int x_9), (6, .int t6_c40), (4, .int t4_c40), (0, .ref h), (1, .int v), (2, .int b), (3, .int n)]) hx hb dX8_hasBy_121 hl (k := 1) rfl ex_9.symm (by decide) rfl (fun ls hl => ?_)
              have ex_9 : x_9 = t5_c24 + 1 := ex_9
              have e_9 : x_9.toInt = t5_c24.toInt + 1 := by rw [ex_9]; exact zi_add (rfl) (by decide) (by omega) (by omega)
              clear ex_9
              refine lv_goto (tgt := 24) hx hb dX8_hasBy_124 (by decide) ?_
              exact ih24 x_9 t4_c40 u_6 _ _ _ (show 0 ≤ x_9.toInt ∧ x_9.toInt ≤ 100 from by omega) c6_1 hf_6 (by omega) (hP.sub [0, 1] rfl) (hD.sub [0, 1] (by decide) rfl) hS (lv_sub hl [0, 2, 3, 4, 5, 6] rfl)
            · have f_8 : ¬ x_7.toInt ≤ t6_c40.toInt := zi_nle c_8
              refine lv_aload_n hx hb dX8_hasBy_51 rfl (lv_at hl 3 rfl) ?_
              refine va_get (D := D) (ci := 7) (v := .ref sl) (C := RX8) (T := TX8) (N := 16) hx hb hts (fun _ h => List.mem_cons_of_mem _ (List.mem_append_right _ h)) hown hK hP 0 rfl rfl 0 (by decide) (hts (.fieldLink RX8 7 "WinterWalkModel" "slot" "[I") (List.mem_of_getElem? (i := 1) rfl)) (fun _ h9 => h9) rfl dX8_hasBy_52 ?_
              refine lv_sipush (v := 1587) hx hb dX8_hasBy_55 (by decide) ?_
              refine lv_iload hx hb dX8_hasBy_58 (lv_at hl 0 rfl) ?_
              refine lv_iadd hx hb dX8_hasBy_60 ?_
              refine lv_topi (fun x_10 ex_10 => ?_)
              have e_10 : x_10.toInt = 1587 + t6_c40.toInt := by rw [ex_10]; exact zi_add (by decide) (rfl) (by omega) (by omega)
              clear ex_10
              refine va_iald hx hb hK hP 1 0 rfl rfl (zi_in (by omega) (by omega)) dX8_hasBy_61 ?_
              refine lv_topi (fun x_11 ex_11 => ?_)
              have f_11 : 0 ≤ x_11.toInt ∧ x_11.toInt ≤ 7 := by rw [ex_11]; exact si_a c6_1 (s := 27) (k := t6_c40.toInt) (by omega) (by omega) (by omega)
              clear ex_11
              refine lv_iload_n hx hb dX8_hasBy_62 rfl (lv_at hl 4 rfl) ?_
              refine lv_icmp_ne (tgt := 70) hx hb dX8_hasBy_63 (by decide) (fun c_12 => ?_) (fun c_12 => ?_)
              · have f_12 : ¬ x_11.toInt = v.toInt := zi_ne c_12
                refine lv_iconst (v := 0) hx hb dX8_hasBy_70 (by decide) ?_
                refine lv_istore (lv' := [(7, .int 0), (6, .int t6_c40), (5, .int t5_c24), (4, .int t4_c40), (0, .ref h), (1, .int v), (2, .int b), (3, .int n)]) hx hb dX8_hasBy_71 hl (by decide) rfl (fun ls hl => ?_)
                refine lv_iload hx hb dX8_hasBy_73 (lv_at hl 3 rfl) ?_
                refine lv_iload hx hb dX8_hasBy_75 (lv_at hl 0 rfl) ?_
                refine lv_if_eq (tgt := 111) hx hb dX8_hasBy_77 (by decide) (fun _ => ?_) (fun c9 => absurd (by decide) c9)
                refine lv_iconst (v := 0) hx hb dX8_hasBy_111 (by decide) ?_
                refine lv_iadd hx hb dX8_hasBy_112 ?_
                refine lv_topi (fun x_13 ex_13 => ?_)
                clear ex_13
                refine lv_istore (lv' := [(4, .int x_13), (7, .int 0), (6, .int t6_c40), (5, .int t5_c24), (0, .ref h), (1, .int v), (2, .int b), (3, .int n)]) hx hb dX8_hasBy_113 hl (by decide) rfl (fun ls hl => ?_)
                obtain ⟨x_14, ex_14⟩ : ∃ y : Int32, y = t6_c40 + Int32.ofInt 1 := ⟨_, rfl⟩
                refine lv_iinc (v := x_14) (lv' := [(6, .int x_14), (4, .int x_13), (7, .int 0), (5, .int t5_c24), (0, .ref h), (1, .int v), (2, .int b), (3, .int n)]) hx hb dX8_hasBy_115 hl (k := 2) rfl ex_14.symm (by decide) rfl (fun ls hl => ?_)
                have ex_14 : x_14 = t6_c40 + 1 := ex_14
                have e_14 : x_14.toInt = t6_c40.toInt + 1 := by rw [ex_14]; exact zi_add (rfl) (by decide) (by omega) (by omega)
                clear ex_14
                refine lv_goto (tgt := 40) hx hb dX8_hasBy_118 (by decide) ?_
                exact ih40 x_14 x_13 _ _ _ (show 0 ≤ x_14.toInt ∧ x_14.toInt ≤ 3 from by omega) (by omega) (hP.sub [0, 1] rfl) (hD.sub [0, 1] (by decide) rfl) hS (lv_sub hl [0, 3, 1, 4, 5, 6, 7] rfl)
              · have f_12 : x_11.toInt = v.toInt := zi_eq c_12
                refine lv_iconst (v := 1) hx hb dX8_hasBy_66 (by decide) ?_
                refine lv_goto (tgt := 71) hx hb dX8_hasBy_67 (by decide) ?_
                refine lv_istore (lv' := [(7, .int 1), (6, .int t6_c40), (5, .int t5_c24), (4, .int t4_c40), (0, .ref h), (1, .int v), (2, .int b), (3, .int n)]) hx hb dX8_hasBy_71 hl (by decide) rfl (fun ls hl => ?_)
                refine lv_iload hx hb dX8_hasBy_73 (lv_at hl 3 rfl) ?_
                refine lv_iload hx hb dX8_hasBy_75 (lv_at hl 0 rfl) ?_
                refine lv_if_eq (tgt := 111) hx hb dX8_hasBy_77 (by decide) (fun c9 => absurd c9 (by decide)) (fun _ => ?_)
                refine lv_aload_n hx hb dX8_hasBy_80 rfl (lv_at hl 4 rfl) ?_
                refine va_get (D := D) (ci := 7) (v := .ref sl) (C := RX8) (T := TX8) (N := 16) hx hb hts (fun _ h => List.mem_cons_of_mem _ (List.mem_append_right _ h)) hown hK hP 0 rfl rfl 0 (by decide) (hts (.fieldLink RX8 7 "WinterWalkModel" "slot" "[I") (List.mem_of_getElem? (i := 1) rfl)) (fun _ h9 => h9) rfl dX8_hasBy_81 ?_
                refine lv_iconst (v := 4) hx hb dX8_hasBy_84 (by decide) ?_
                refine lv_iload_n hx hb dX8_hasBy_85 rfl (lv_at hl 5 rfl) ?_
                refine lv_iadd hx hb dX8_hasBy_86 ?_
                refine lv_topi (fun x_15 ex_15 => ?_)
                have e_15 : x_15.toInt = 4 + v.toInt := by rw [ex_15]; exact zi_add (by decide) (rfl) (by omega) (by omega)
                clear ex_15
                refine va_iald hx hb hK hP 1 0 rfl rfl (zi_in (by omega) (by omega)) dX8_hasBy_87 ?_
                refine lv_topi (fun x_16 ex_16 => ?_)
                clear ex_16
                refine lv_aload_n hx hb dX8_hasBy_88 rfl (lv_at hl 4 rfl) ?_
                refine va_get (D := D) (ci := 7) (v := .ref sl) (C := RX8) (T := TX8) (N := 16) hx hb hts (fun _ h => List.mem_cons_of_mem _ (List.mem_append_right _ h)) hown hK hP 0 rfl rfl 0 (by decide) (hts (.fieldLink RX8 7 "WinterWalkModel" "slot" "[I") (List.mem_of_getElem? (i := 1) rfl)) (fun _ h9 => h9) rfl dX8_hasBy_89 ?_
                refine lv_bipush (v := 20) hx hb dX8_hasBy_92 (by decide) ?_
                refine lv_iload hx hb dX8_hasBy_94 (lv_at hl 1 rfl) ?_
                refine lv_iadd hx hb dX8_hasBy_96 ?_
                refine lv_topi (fun x_17 ex_17 => ?_)
                have e_17 : x_17.toInt = 20 + t6_c40.toInt := by rw [ex_17]; exact zi_add (by decide) (rfl) (by omega) (by omega)
                clear ex_17
                refine va_iald hx hb hK hP 1 0 rfl rfl (zi_in (by omega) (by omega)) dX8_hasBy_97 ?_
                refine lv_topi (fun x_18 ex_18 => ?_)
                clear ex_18
                refine lv_iconst (v := 4) hx hb dX8_hasBy_98 (by decide) ?_
                refine lv_icmp_ge (tgt := 106) hx hb dX8_hasBy_99 (by decide) (fun c_19 => ?_) (fun c_19 => ?_)
                · have f_19 : 4 ≤ x_18.toInt := zi_le c_19
                  refine lv_iconst (v := 0) hx hb dX8_hasBy_106 (by decide) ?_
                  refine lv_isub hx hb dX8_hasBy_107 ?_
                  refine lv_topi (fun x_20 ex_20 => ?_)
                  clear ex_20
                  refine lv_goto (tgt := 112) hx hb dX8_hasBy_108 (by decide) ?_
                  refine lv_iadd hx hb dX8_hasBy_112 ?_
                  refine lv_topi (fun x_21 ex_21 => ?_)
                  clear ex_21
                  refine lv_istore (lv' := [(4, .int x_21), (7, .int 1), (6, .int t6_c40), (5, .int t5_c24), (0, .ref h), (1, .int v), (2, .int b), (3, .int n)]) hx hb dX8_hasBy_113 hl (by decide) rfl (fun ls hl => ?_)
                  obtain ⟨x_22, ex_22⟩ : ∃ y : Int32, y = t6_c40 + Int32.ofInt 1 := ⟨_, rfl⟩
                  refine lv_iinc (v := x_22) (lv' := [(6, .int x_22), (4, .int x_21), (7, .int 1), (5, .int t5_c24), (0, .ref h), (1, .int v), (2, .int b), (3, .int n)]) hx hb dX8_hasBy_115 hl (k := 2) rfl ex_22.symm (by decide) rfl (fun ls hl => ?_)
                  have ex_22 : x_22 = t6_c40 + 1 := ex_22
                  have e_22 : x_22.toInt = t6_c40.toInt + 1 := by rw [ex_22]; exact zi_add (rfl) (by decide) (by omega) (by omega)
                  clear ex_22
                  refine lv_goto (tgt := 40) hx hb dX8_hasBy_118 (by decide) ?_
                  exact ih40 x_22 x_21 _ _ _ (show 0 ≤ x_22.toInt ∧ x_22.toInt ≤ 3 from by omega) (by omega) (hP.sub [0, 1] rfl) (hD.sub [0, 1] (by decide) rfl) hS (lv_sub hl [0, 3, 1, 4, 5, 6, 7] rfl)
                · have f_19 : ¬ 4 ≤ x_18.toInt := zi_nle c_19
                  refine lv_iload_n hx hb dX8_hasBy_102 rfl (lv_at hl 6 rfl) ?_
                  refine lv_goto (tgt := 107) hx hb dX8_hasBy_103 (by decide) ?_
                  refine lv_isub hx hb dX8_hasBy_107 ?_
                  refine lv_topi (fun x_23 ex_23 => ?_)
                  clear ex_23
                  refine lv_goto (tgt := 112) hx hb dX8_hasBy_108 (by decide) ?_
                  refine lv_iadd hx hb dX8_hasBy_112 ?_
                  refine lv_topi (fun x_24 ex_24 => ?_)
                  clear ex_24
                  refine lv_istore (lv' := [(4, .int x_24), (7, .int 1), (6, .int t6_c40), (5, .int t5_c24), (0, .ref h), (1, .int v), (2, .int b), (3, .int n)]) hx hb dX8_hasBy_113 hl (by decide) rfl (fun ls hl => ?_)
                  obtain ⟨x_25, ex_25⟩ : ∃ y : Int32, y = t6_c40 + Int32.ofInt 1 := ⟨_, rfl⟩
                  refine lv_iinc (v := x_25) (lv' := [(6, .int x_25), (4, .int x_24), (7, .int 1), (5, .int t5_c24), (0, .ref h), (1, .int v), (2, .int b), (3, .int n)]) hx hb dX8_hasBy_115 hl (k := 2) rfl ex_25.symm (by decide) rfl (fun ls hl => ?_)
                  have ex_25 : x_25 = t6_c40 + 1 := ex_25
                  have e_25 : x_25.toInt = t6_c40.toInt + 1 := by rw [ex_25]; exact zi_add (rfl) (by decide) (by omega) (by omega)
                  clear ex_25
                  refine lv_goto (tgt := 40) hx hb dX8_hasBy_118 (by decide) ?_
                  exact ih40 x_25 x_24 _ _ _ (show 0 ≤ x_25.toInt ∧ x_25.toInt ≤ 3 from by omega) (by omega) (hP.sub [0, 1] rfl) (hD.sub [0, 1] (by decide) rfl) hS (lv_sub hl [0, 3, 1, 4, 5, 6, 7] rfl)
        exact hL40 (((3 - (0 : Int32).toInt).toNat) + 1) 0 t4_c24 _ _ _ (show 0 ≤ 0 ∧ 0 ≤ 3 from by omega) (Nat.lt_succ_self _) (hP.sub [0, 1] rfl) (hD.sub [0, 1] (by decide) rfl) hS (lv_sub hl [0, 1, 2, 3, 4, 5, 6] rfl)
  exact hL24 (((n.toInt - (0 : Int32).toInt).toNat) + 1) 0 0 (upd u_1 (x_2 : Int32).toNatClampNeg b) _ _ _ (show 0 ≤ 0 ∧ 0 ≤ 100 from by omega) ha_3 hf_4 (Nat.lt_succ_self _) (hP.sub [0, 1] rfl) (hD.sub [0, 1] (by decide) rfl) hS (lv_sub hl [0, 1, 2, 3, 4, 5] rfl)
set_option maxHeartbeats 4000000 in
set_option maxRecDepth 100000 in
theorem f_X8_bid (l : Launch) (D : va_G) (cI cB cQ : ClassId) (sz : Nat) (h : Nat) (sl : Nat) (zs : Nat) (ln : Nat) (ir : Nat) (tk : Nat) (tb : Nat) (tr : Nat) (fz : Nat) (na : Int32) (su : Int32) (le : Int32) (fu : Int32) (ap : Int32) (pp : Int32) (tc : Int32) (nm : Int32) (v : Int32) (n : Int32) (k : Int32) (sf : Nat → Int32) (v0 : Int) (hsi : SI sf v0) : mi l yX8_bid wsX8_bid ({ frames := 6, cells := 0, slots := 0, locals := 149 }) D cI cB cQ [.ref h, .int v, .int n, .int k] sz [(h, .inr (7, [.ref sl, .int na, .ref zs, .ref ln, .ref ir, .ref tk, .int su, .int le, .ref tb, .int fu, .int ap, .int pp, .ref tr, .int tc, .ref fz, .int nm])), (sl, .inl (cI, 1653, .inl sf))] (fun (r : Int32) (u : (Nat → Int32)) => (FRM (1539) (1596) sf u) ∧ (SI u v0)) (fun u => [(h, .inr (7, [.ref sl, .int na, .ref zs, .ref ln, .ref ir, .ref tk, .int su, .int le, .ref tb, .int fu, .int ap, .int pp, .ref tr, .int tc, .ref fz, .int nm])), (sl, .inl (cI, 1653, .inl u))]) 0 0 := by
  refine wm_i (cc := cX8_bid) (maxL := 8) (ret := (some .int)) (by decide) rfl (Nat.le_of_ble_eq_true rfl) ?_
  intro p e s m below meth c A ls hx hb hr hml hown hts hlocks hin hP hK hD hN hA hl hS
  have hown : s.vm.findClass RX8 = some m.cls := hown
  have hl : lv_has ls 8 [(0, .ref h), (1, .int v), (2, .int n), (3, .int k)] := hl
  change W p l e ({ frames := 6, cells := 0, slots := 0, locals := 149 }) s m ([.ref h, .int v, .int n, .int k] : List Value).toArray below meth c s.heap [] 0 0 (MQ below (va_Qi (fun (r : Int32) (u : (Nat → Int32)) => (FRM (1539) (1596) sf u) ∧ (SI u v0)) (fun u t => wb D A ((fun u => [(h, .inr (7, [.ref sl, .int na, .ref zs, .ref ln, .ref ir, .ref tk, .int su, .int le, .ref tb, .int fu, .int ap, .int pp, .ref tr, .int tc, .ref fz, .int nm])), (sl, .inl (cI, 1653, .inl u))]) u) t) A) ([.ref h, .int v, .int n, .int k] : List Value).toArray s 0 0 A) (F0 m 0 ls [])
  refine lv_aload_n hx hb dX8_bid_0 rfl (lv_at hl 0 rfl) ?_
  refine lv_iload_n hx hb dX8_bid_1 rfl (lv_at hl 1 rfl) ?_
  have k_1 := (g_X8_isVillageThere l D cI cB cQ s.heap.size h sl zs ln ir tk tb tr fz na su le fu ap pp tc nm v sf v0 hsi)
  refine wc_i (WC := [(h, .inr (7, [.ref sl, .int na, .ref zs, .ref ln, .ref ir, .ref tk, .int su, .int le, .ref tb, .int fu, .int ap, .int pp, .ref tr, .int tc, .ref fz, .int nm])), (sl, .inl (cI, 1653, .inl sf))]) (WR := []) (va_runV (As := [.int v]) (rest := []) ⟨hx, hb, hml, hown, hts⟩ k_1 (cwV 1 hts gX8_bid_X8_isVillageThere rfl rfl rfl (by decide +kernel) ⟨Nat.le_of_ble_eq_true rfl, Nat.le_of_ble_eq_true rfl⟩) (wp_V hP hK hD hN [0, 1] (by decide) rfl (ci := 7) rfl rfl) rfl rfl hl.1 rfl (lv_room (Nat.le_of_ble_eq_true rfl)) dX8_bid_2 ⟨Nat.le_of_ble_eq_true rfl, Nat.le_of_ble_eq_true rfl⟩) hP hD hS hA [0, 1] [] rfl rfl (by decide) (by decide) (fun r_1 u_1 H locs hw_1 hP hD hS => ?_)
  clear k_1
  have hP : va_P D kl [(h, .inr (7, [.ref sl, .int na, .ref zs, .ref ln, .ref ir, .ref tk, .int su, .int le, .ref tb, .int fu, .int ap, .int pp, .ref tr, .int tc, .ref fz, .int nm])), (sl, .inl (cI, 1653, .inl sf))] H := hP
  have hD : va_D A [(h, .inr (7, [.ref sl, .int na, .ref zs, .ref ln, .ref ir, .ref tk, .int su, .int le, .ref tb, .int fu, .int ap, .int pp, .ref tr, .int tc, .ref fz, .int nm])), (sl, .inl (cI, 1653, .inl sf))] := hD
  have c1_0 := hw_1
  rcases c1_0 with ⟨e_1, f_1⟩ | e_1
  · subst e_1
    have f_1 : 0 ≤ v.toInt ∧ v.toInt ≤ 7 ∧ v.toInt < v0 := f_1
    refine lv_if_eq (tgt := 30) hx hb dX8_bid_5 (by decide) (fun c9 => absurd c9 (by decide)) (fun _ => ?_)
    refine lv_iload_n hx hb dX8_bid_8 rfl (lv_at hl 2 rfl) ?_
    refine lv_i2l (v := (n.toInt64)) hx hb dX8_bid_9 rfl ?_
    refine lv_lconst (v := 1) hx hb dX8_bid_10 (by decide) ?_
    refine lv_ldc2 (v := 50) hx hb hown (hts (.constantLong RX8 177 (50)) (List.mem_of_getElem? (i := 1) rfl)) dX8_bid_11 ?_
    have k_2 := (g_X8_in l D cI cB cQ H.size (n.toInt64) 1 50)
    refine wc_i (WC := []) (WR := [(h, .inr (7, [.ref sl, .int na, .ref zs, .ref ln, .ref ir, .ref tk, .int su, .int le, .ref tb, .int fu, .int ap, .int pp, .ref tr, .int tc, .ref fz, .int nm])), (sl, .inl (cI, 1653, .inl sf))]) (va_runS (As := [.long (n.toInt64), .long 1, .long 50]) (rest := []) ⟨hx, hb, hml, hown, hts⟩ k_2 (va_cwS 3 hts gX8_bid_X8_in rfl rfl rfl (by decide +kernel) ⟨Nat.le_of_ble_eq_true rfl, Nat.le_of_ble_eq_true rfl⟩) (wp_S hP hK hD hN [] (by decide) rfl) rfl rfl hl.1 rfl (lv_room (Nat.le_of_ble_eq_true rfl)) dX8_bid_14 ⟨Nat.le_of_ble_eq_true rfl, Nat.le_of_ble_eq_true rfl⟩) hP hD hS hA [] [0, 1] rfl rfl (by decide) (by decide) (fun r_2 u_2 H locs hw_2 hP hD hS => ?_)
    clear k_2
    have hP : va_P D kl [(h, .inr (7, [.ref sl, .int na, .ref zs, .ref ln, .ref ir, .ref tk, .int su, .int le, .ref tb, .int fu, .int ap, .int pp, .ref tr, .int tc, .ref fz, .int nm])), (sl, .inl (cI, 1653, .inl sf))] H := hP
    have hD : va_D A [(h, .inr (7, [.ref sl, .int na, .ref zs, .ref ln, .ref ir, .ref tk, .int su, .int le, .ref tb, .int fu, .int ap, .int pp, .ref tr, .int tc, .ref fz, .int nm])), (sl, .inl (cI, 1653, .inl sf))] := hD
    have c2_0 := hw_2
    rcases c2_0 with ⟨e_2, f_2⟩ | ⟨e_2, f_2⟩
    · subst e_2
      have f_2 : (1 : Int) ≤ n.toInt ∧ n.toInt ≤ (50 : Int) := by
        have h8 := f_2
        try simp only [zl_of] at h8
        exact h8
      refine lv_if_eq (tgt := 30) hx hb dX8_bid_17 (by decide) (fun c9 => absurd c9 (by decide)) (fun _ => ?_)
      refine lv_iload_n hx hb dX8_bid_20 rfl (lv_at hl 3 rfl) ?_
      refine lv_i2l (v := (k.toInt64)) hx hb dX8_bid_21 rfl ?_
      refine lv_lconst (v := 0) hx hb dX8_bid_22 (by decide) ?_
      refine lv_lconst (v := 1) hx hb dX8_bid_23 (by decide) ?_
      have k_3 := (g_X8_in l D cI cB cQ H.size (k.toInt64) 0 1)
      refine wc_i (WC := []) (WR := [(h, .inr (7, [.ref sl, .int na, .ref zs, .ref ln, .ref ir, .ref tk, .int su, .int le, .ref tb, .int fu, .int ap, .int pp, .ref tr, .int tc, .ref fz, .int nm])), (sl, .inl (cI, 1653, .inl sf))]) (va_runS (As := [.long (k.toInt64), .long 0, .long 1]) (rest := []) ⟨hx, hb, hml, hown, hts⟩ k_3 (va_cwS 3 hts gX8_bid_X8_in rfl rfl rfl (by decide +kernel) ⟨Nat.le_of_ble_eq_true rfl, Nat.le_of_ble_eq_true rfl⟩) (wp_S hP hK hD hN [] (by decide) rfl) rfl rfl hl.1 rfl (lv_room (Nat.le_of_ble_eq_true rfl)) dX8_bid_24 ⟨Nat.le_of_ble_eq_true rfl, Nat.le_of_ble_eq_true rfl⟩) hP hD hS hA [] [0, 1] rfl rfl (by decide) (by decide) (fun r_3 u_3 H locs hw_3 hP hD hS => ?_)
      clear k_3
      have hP : va_P D kl [(h, .inr (7, [.ref sl, .int na, .ref zs, .ref ln, .ref ir, .ref tk, .int su, .int le, .ref tb, .int fu, .int ap, .int pp, .ref tr, .int tc, .ref fz, .int nm])), (sl, .inl (cI, 1653, .inl sf))] H := hP
      have hD : va_D A [(h, .inr (7, [.ref sl, .int na, .ref zs, .ref ln, .ref ir, .ref tk, .int su, .int le, .ref tb, .int fu, .int ap, .int pp, .ref tr, .int tc, .ref fz, .int nm])), (sl, .inl (cI, 1653, .inl sf))] := hD
      have c3_0 := hw_3
      rcases c3_0 with ⟨e_3, f_3⟩ | ⟨e_3, f_3⟩
      · subst e_3
        have f_3 : (0 : Int) ≤ k.toInt ∧ k.toInt ≤ (1 : Int) := by
          have h8 := f_3
          try simp only [zl_of] at h8
          exact h8
        refine lv_if_ne (tgt := 33) hx hb dX8_bid_27 (by decide) (fun _ => ?_) (fun c9 => absurd c9 (by decide))
        refine lv_iconst (v := (-1)) hx hb dX8_bid_33 (by decide) ?_
        refine lv_istore (lv' := [(4, .int (-1)), (0, .ref h), (1, .int v), (2, .int n), (3, .int k)]) hx hb dX8_bid_34 hl (by decide) rfl (fun ls hl => ?_)
        refine lv_iconst (v := 0) hx hb dX8_bid_36 (by decide) ?_
        refine lv_istore (lv' := [(5, .int 0), (4, .int (-1)), (0, .ref h), (1, .int v), (2, .int n), (3, .int k)]) hx hb dX8_bid_37 hl (by decide) rfl (fun ls hl => ?_)
        refine lv_iconst (v := 0) hx hb dX8_bid_39 (by decide) ?_
        refine lv_istore (lv' := [(6, .int 0), (5, .int 0), (4, .int (-1)), (0, .ref h), (1, .int v), (2, .int n), (3, .int k)]) hx hb dX8_bid_40 hl (by decide) rfl (fun ls hl => ?_)
        have hL42 : ∀ (nf : Nat) (t6_c42 : Int32) (t5_c42 : Int32) (t4_c42 : Int32) (g0_c42 : Nat → Int32) (H : Heap) (locs : List Loc) (ls : Array Slot), (0 ≤ t6_c42.toInt ∧ t6_c42.toInt ≤ 21) → (SI g0_c42 v0) → (FRM (1539) (1596) sf g0_c42) → (21 - t6_c42.toInt).toNat < nf → va_P D kl [(h, .inr (7, [.ref sl, .int na, .ref zs, .ref ln, .ref ir, .ref tk, .int su, .int le, .ref tb, .int fu, .int ap, .int pp, .ref tr, .int tc, .ref fz, .int nm])), (sl, .inl (cI, 1653, .inl g0_c42))] H → va_D A [(h, .inr (7, [.ref sl, .int na, .ref zs, .ref ln, .ref ir, .ref tk, .int su, .int le, .ref tb, .int fu, .int ap, .int pp, .ref tr, .int tc, .ref fz, .int nm])), (sl, .inl (cI, 1653, .inl g0_c42))] → va_S A s.heap H locs → lv_has ls 8 [(6, .int t6_c42), (5, .int t5_c42), (4, .int t4_c42), (0, .ref h), (1, .int v), (2, .int n), (3, .int k)] → W p l e ({ frames := 6, cells := 0, slots := 0, locals := 149 }) s m ([.ref h, .int v, .int n, .int k] : List Value).toArray below meth c H locs 0 0 (MQ below (va_Qi (fun (r : Int32) (u : (Nat → Int32)) => (FRM (1539) (1596) sf u) ∧ (SI u v0)) (fun u t => wb D A ((fun u => [(h, .inr (7, [.ref sl, .int na, .ref zs, .ref ln, .ref ir, .ref tk, .int su, .int le, .ref tb, .int fu, .int ap, .int pp, .ref tr, .int tc, .ref fz, .int nm])), (sl, .inl (cI, 1653, .inl u))]) u) t) A) ([.ref h, .int v, .int n, .int k] : List Value).toArray s 0 0 A) (F0 m 42 ls []) := by
          intro nf
          induction nf with
          | zero =>
            intro t6_c42 t5_c42 t4_c42 g0_c42 H locs ls i_t6_c42 ha_g0_c42 hf_c42 hm
            exact absurd hm (Nat.not_lt_zero _)
          | succ nf ih42 =>
            intro t6_c42 t5_c42 t4_c42 g0_c42 H locs ls i_t6_c42 ha_g0_c42 hf_c42 hm42 hP hD hS hl
            refine lv_iload hx hb dX8_bid_42 (lv_at hl 0 rfl) ?_
            refine lv_bipush (v := 21) hx hb dX8_bid_44 (by decide) ?_
            refine lv_icmp_ge (tgt := 85) hx hb dX8_bid_46 (by decide) (fun c_4 => ?_) (fun c_4 => ?_)
            · have f_4 : 21 ≤ t6_c42.toInt := zi_le c_4
              refine lv_iload_n hx hb dX8_bid_85 rfl (lv_at hl 6 rfl) ?_
              refine lv_if_ne (tgt := 94) hx hb dX8_bid_86 (by decide) (fun c_5 => ?_) (fun c_5 => ?_)
              · have f_5 : ¬ k.toInt = 0 := zi_ne c_5
                refine lv_iload hx hb dX8_bid_94 (lv_at hl 1 rfl) ?_
                exact wr_i (v := t5_c42) hx hb hr hlocks hS g0_c42 (by exact ⟨show FRM (1539) (1596) sf g0_c42 from hf_c42, ha_g0_c42⟩) (hP.sub [0, 1] rfl) (hD.sub [0, 1] (by decide) rfl) dX8_bid_96
              · have f_5 : k.toInt = 0 := zi_eq c_5
                refine lv_iload hx hb dX8_bid_89 (lv_at hl 2 rfl) ?_
                refine lv_goto (tgt := 96) hx hb dX8_bid_91 (by decide) ?_
                exact wr_i (v := t4_c42) hx hb hr hlocks hS g0_c42 (by exact ⟨show FRM (1539) (1596) sf g0_c42 from hf_c42, ha_g0_c42⟩) (hP.sub [0, 1] rfl) (hD.sub [0, 1] (by decide) rfl) dX8_bid_96
            · have f_4 : ¬ 21 ≤ t6_c42.toInt := zi_nle c_4
              refine lv_aload_n hx hb dX8_bid_49 rfl (lv_at hl 3 rfl) ?_
              refine lv_iload_n hx hb dX8_bid_50 rfl (lv_at hl 4 rfl) ?_
              refine lv_iload hx hb dX8_bid_51 (lv_at hl 0 rfl) ?_
              refine lv_iload_n hx hb dX8_bid_53 rfl (lv_at hl 5 rfl) ?_
              have k_6 := (f_X8_hasBy l D cI cB cQ H.size h sl zs ln ir tk tb tr fz na su le fu ap pp tc nm v t6_c42 n g0_c42 v0 ha_g0_c42 (by omega) (by omega))
              refine wc_i (WC := [(h, .inr (7, [.ref sl, .int na, .ref zs, .ref ln, .ref ir, .ref tk, .int su, .int le, .ref tb, .int fu, .int ap, .int pp, .ref tr, .int tc, .ref fz, .int nm])), (sl, .inl (cI, 1653, .inl g0_c42))]) (WR := []) (va_runV (As := [.int v, .int t6_c42, .int n]) (rest := []) ⟨hx, hb, hml, hown, hts⟩ k_6 (cwV 3 hts gX8_bid_X8_hasBy rfl rfl rfl (by decide +kernel) ⟨Nat.le_of_ble_eq_true rfl, Nat.le_of_ble_eq_true rfl⟩) (wp_V hP hK hD hN [0, 1] (by decide) rfl (ci := 7) rfl rfl) rfl rfl hl.1 rfl (lv_room (Nat.le_of_ble_eq_true rfl)) dX8_bid_54 ⟨Nat.le_of_ble_eq_true rfl, Nat.le_of_ble_eq_true rfl⟩) hP hD hS hA [0, 1] [] rfl rfl (by decide) (by decide) (fun r_6 u_6 H locs hw_6 hP hD hS => ?_)
              clear k_6
              have hP : va_P D kl [(h, .inr (7, [.ref sl, .int na, .ref zs, .ref ln, .ref ir, .ref tk, .int su, .int le, .ref tb, .int fu, .int ap, .int pp, .ref tr, .int tc, .ref fz, .int nm])), (sl, .inl (cI, 1653, .inl u_6))] H := hP
              have hD : va_D A [(h, .inr (7, [.ref sl, .int na, .ref zs, .ref ln, .ref ir, .ref tk, .int su, .int le, .ref tb, .int fu, .int ap, .int pp, .ref tr, .int tc, .ref fz, .int nm])), (sl, .inl (cI, 1653, .inl u_6))] := hD
              obtain ⟨c6_0, c6_1⟩ := hw_6
              have c6_0 : FRM (1539) (1596) g0_c42 u_6 := c6_0
              have c6_1 : SI u_6 v0 := c6_1
              have hf_6 : FRM (1539) (1596) sf u_6 := FRM.trans hf_c42 (FRM.sub c6_0 (by omega) (by omega))
              refine lv_istore (lv' := [(7, .int r_6), (6, .int t6_c42), (5, .int t5_c42), (4, .int t4_c42), (0, .ref h), (1, .int v), (2, .int n), (3, .int k)]) hx hb dX8_bid_57 hl (by decide) rfl (fun ls hl => ?_)
              refine lv_iload hx hb dX8_bid_59 (lv_at hl 3 rfl) ?_
              refine lv_if_lt (tgt := 71) hx hb dX8_bid_61 (by decide) (fun c_7 => ?_) (fun c_7 => ?_)
              · have f_7 : t4_c42.toInt < 0 := zi_lt c_7
                refine lv_iload hx hb dX8_bid_71 (lv_at hl 1 rfl) ?_
                refine lv_istore (lv' := [(4, .int t6_c42), (7, .int r_6), (6, .int t6_c42), (5, .int t5_c42), (0, .ref h), (1, .int v), (2, .int n), (3, .int k)]) hx hb dX8_bid_73 hl (by decide) rfl (fun ls hl => ?_)
                refine lv_iload hx hb dX8_bid_75 (lv_at hl 1 rfl) ?_
                refine lv_istore (lv' := [(5, .int r_6), (4, .int t6_c42), (7, .int r_6), (6, .int t6_c42), (0, .ref h), (1, .int v), (2, .int n), (3, .int k)]) hx hb dX8_bid_77 hl (by decide) rfl (fun ls hl => ?_)
                obtain ⟨x_8, ex_8⟩ : ∃ y : Int32, y = t6_c42 + Int32.ofInt 1 := ⟨_, rfl⟩
                refine lv_iinc (v := x_8) (lv' := [(6, .int x_8), (5, .int r_6), (4, .int t6_c42), (7, .int r_6), (0, .ref h), (1, .int v), (2, .int n), (3, .int k)]) hx hb dX8_bid_79 hl (k := 3) rfl ex_8.symm (by decide) rfl (fun ls hl => ?_)
                have ex_8 : x_8 = t6_c42 + 1 := ex_8
                have e_8 : x_8.toInt = t6_c42.toInt + 1 := by rw [ex_8]; exact zi_add (rfl) (by decide) (by omega) (by omega)
                clear ex_8
                refine lv_goto (tgt := 42) hx hb dX8_bid_82 (by decide) ?_
                exact ih42 x_8 r_6 t6_c42 u_6 _ _ _ (show 0 ≤ x_8.toInt ∧ x_8.toInt ≤ 21 from by omega) c6_1 hf_6 (by omega) (hP.sub [0, 1] rfl) (hD.sub [0, 1] (by decide) rfl) hS (lv_sub hl [0, 1, 2, 4, 5, 6, 7] rfl)
              · have f_7 : ¬ t4_c42.toInt < 0 := zi_nlt c_7
                refine lv_iload hx hb dX8_bid_64 (lv_at hl 0 rfl) ?_
                refine lv_iload hx hb dX8_bid_66 (lv_at hl 2 rfl) ?_
                refine lv_icmp_le (tgt := 79) hx hb dX8_bid_68 (by decide) (fun c_9 => ?_) (fun c_9 => ?_)
                · have f_9 : r_6.toInt ≤ t5_c42.toInt := zi_le c_9
                  obtain ⟨x_10, ex_10⟩ : ∃ y : Int32, y = t6_c42 + Int32.ofInt 1 := ⟨_, rfl⟩
                  refine lv_iinc (v := x_10) (lv' := [(6, .int x_10), (7, .int r_6), (5, .int t5_c42), (4, .int t4_c42), (0, .ref h), (1, .int v), (2, .int n), (3, .int k)]) hx hb dX8_bid_79 hl (k := 1) rfl ex_10.symm (by decide) rfl (fun ls hl => ?_)
                  have ex_10 : x_10 = t6_c42 + 1 := ex_10
                  have e_10 : x_10.toInt = t6_c42.toInt + 1 := by rw [ex_10]; exact zi_add (rfl) (by decide) (by omega) (by omega)
                  clear ex_10
                  refine lv_goto (tgt := 42) hx hb dX8_bid_82 (by decide) ?_
                  exact ih42 x_10 t5_c42 t4_c42 u_6 _ _ _ (show 0 ≤ x_10.toInt ∧ x_10.toInt ≤ 21 from by omega) c6_1 hf_6 (by omega) (hP.sub [0, 1] rfl) (hD.sub [0, 1] (by decide) rfl) hS (lv_sub hl [0, 2, 3, 4, 5, 6, 7] rfl)
                · have f_9 : ¬ r_6.toInt ≤ t5_c42.toInt := zi_nle c_9
                  refine lv_iload hx hb dX8_bid_71 (lv_at hl 1 rfl) ?_
                  refine lv_istore (lv' := [(4, .int t6_c42), (7, .int r_6), (6, .int t6_c42), (5, .int t5_c42), (0, .ref h), (1, .int v), (2, .int n), (3, .int k)]) hx hb dX8_bid_73 hl (by decide) rfl (fun ls hl => ?_)
                  refine lv_iload hx hb dX8_bid_75 (lv_at hl 1 rfl) ?_
                  refine lv_istore (lv' := [(5, .int r_6), (4, .int t6_c42), (7, .int r_6), (6, .int t6_c42), (0, .ref h), (1, .int v), (2, .int n), (3, .int k)]) hx hb dX8_bid_77 hl (by decide) rfl (fun ls hl => ?_)
                  obtain ⟨x_11, ex_11⟩ : ∃ y : Int32, y = t6_c42 + Int32.ofInt 1 := ⟨_, rfl⟩
                  refine lv_iinc (v := x_11) (lv' := [(6, .int x_11), (5, .int r_6), (4, .int t6_c42), (7, .int r_6), (0, .ref h), (1, .int v), (2, .int n), (3, .int k)]) hx hb dX8_bid_79 hl (k := 3) rfl ex_11.symm (by decide) rfl (fun ls hl => ?_)
                  have ex_11 : x_11 = t6_c42 + 1 := ex_11
                  have e_11 : x_11.toInt = t6_c42.toInt + 1 := by rw [ex_11]; exact zi_add (rfl) (by decide) (by omega) (by omega)
                  clear ex_11
                  refine lv_goto (tgt := 42) hx hb dX8_bid_82 (by decide) ?_
                  exact ih42 x_11 r_6 t6_c42 u_6 _ _ _ (show 0 ≤ x_11.toInt ∧ x_11.toInt ≤ 21 from by omega) c6_1 hf_6 (by omega) (hP.sub [0, 1] rfl) (hD.sub [0, 1] (by decide) rfl) hS (lv_sub hl [0, 1, 2, 4, 5, 6, 7] rfl)
        exact hL42 (((21 - (0 : Int32).toInt).toNat) + 1) 0 0 (-1) sf _ _ _ (show 0 ≤ 0 ∧ 0 ≤ 21 from by omega) hsi FRM.refl (Nat.lt_succ_self _) (hP.sub [0, 1] rfl) (hD.sub [0, 1] (by decide) rfl) hS (lv_sub hl [0, 1, 2, 3, 4, 5, 6] rfl)
      · subst e_3
        have f_3 : ¬ ((0 : Int) ≤ k.toInt ∧ k.toInt ≤ (1 : Int)) := by
          have h8 := f_3
          try simp only [zl_of] at h8
          exact h8
        refine lv_if_ne (tgt := 33) hx hb dX8_bid_27 (by decide) (fun c9 => absurd (by decide) c9) (fun _ => ?_)
        refine lv_ldc (v := (-1000001)) hx hb hown (hts (.constant RX8 48 (-1000001)) (List.mem_of_getElem? (i := 2) rfl)) dX8_bid_30 ?_
        exact wr_i (v := (-1000001)) hx hb hr hlocks hS sf (by exact ⟨show FRM (1539) (1596) sf sf from FRM.refl, hsi⟩) (hP.sub [0, 1] rfl) (hD.sub [0, 1] (by decide) rfl) dX8_bid_32
    · subst e_2
      have f_2 : ¬ ((1 : Int) ≤ n.toInt ∧ n.toInt ≤ (50 : Int)) := by
        have h8 := f_2
        try simp only [zl_of] at h8
        exact h8
      refine lv_if_eq (tgt := 30) hx hb dX8_bid_17 (by decide) (fun _ => ?_) (fun c9 => absurd (by decide) c9)
      refine lv_ldc (v := (-1000001)) hx hb hown (hts (.constant RX8 48 (-1000001)) (List.mem_of_getElem? (i := 2) rfl)) dX8_bid_30 ?_
      exact wr_i (v := (-1000001)) hx hb hr hlocks hS sf (by exact ⟨show FRM (1539) (1596) sf sf from FRM.refl, hsi⟩) (hP.sub [0, 1] rfl) (hD.sub [0, 1] (by decide) rfl) dX8_bid_32
  · subst e_1
    refine lv_if_eq (tgt := 30) hx hb dX8_bid_5 (by decide) (fun _ => ?_) (fun c9 => absurd (by decide) c9)
    refine lv_ldc (v := (-1000001)) hx hb hown (hts (.constant RX8 48 (-1000001)) (List.mem_of_getElem? (i := 2) rfl)) dX8_bid_30 ?_
    exact wr_i (v := (-1000001)) hx hb hr hlocks hS sf (by exact ⟨show FRM (1539) (1596) sf sf from FRM.refl, hsi⟩) (hP.sub [0, 1] rfl) (hD.sub [0, 1] (by decide) rfl) dX8_bid_32
set_option maxHeartbeats 4000000 in
set_option maxRecDepth 100000 in
theorem f_X8_rests (l : Launch) (D : va_G) (cI cB cQ : ClassId) (sz : Nat) (h : Nat) (sl : Nat) (zs : Nat) (ln : Nat) (ir : Nat) (tk : Nat) (tb : Nat) (tr : Nat) (fz : Nat) (na : Int32) (su : Int32) (le : Int32) (fu : Int32) (ap : Int32) (pp : Int32) (tc : Int32) (nm : Int32) (n : Int32) (sf : Nat → Int32) (v0 : Int) (hsi : SI sf v0) : mi l yX8_rests wsX8_rests ({ frames := 6, cells := 0, slots := 0, locals := 149 }) D cI cB cQ [.ref h, .int n] sz [(h, .inr (7, [.ref sl, .int na, .ref zs, .ref ln, .ref ir, .ref tk, .int su, .int le, .ref tb, .int fu, .int ap, .int pp, .ref tr, .int tc, .ref fz, .int nm])), (sl, .inl (cI, 1653, .inl sf))] (fun (r : Int32) (u : (Nat → Int32)) => (FRM (1539) (1596) sf u) ∧ (SI u v0)) (fun u => [(h, .inr (7, [.ref sl, .int na, .ref zs, .ref ln, .ref ir, .ref tk, .int su, .int le, .ref tb, .int fu, .int ap, .int pp, .ref tr, .int tc, .ref fz, .int nm])), (sl, .inl (cI, 1653, .inl u))]) 0 0 := by
  refine wm_i (cc := cX8_rests) (maxL := 6) (ret := (some .int)) (by decide) rfl (Nat.le_of_ble_eq_true rfl) ?_
  intro p e s m below meth c A ls hx hb hr hml hown hts hlocks hin hP hK hD hN hA hl hS
  have hown : s.vm.findClass RX8 = some m.cls := hown
  have hl : lv_has ls 6 [(0, .ref h), (1, .int n)] := hl
  change W p l e ({ frames := 6, cells := 0, slots := 0, locals := 149 }) s m ([.ref h, .int n] : List Value).toArray below meth c s.heap [] 0 0 (MQ below (va_Qi (fun (r : Int32) (u : (Nat → Int32)) => (FRM (1539) (1596) sf u) ∧ (SI u v0)) (fun u t => wb D A ((fun u => [(h, .inr (7, [.ref sl, .int na, .ref zs, .ref ln, .ref ir, .ref tk, .int su, .int le, .ref tb, .int fu, .int ap, .int pp, .ref tr, .int tc, .ref fz, .int nm])), (sl, .inl (cI, 1653, .inl u))]) u) t) A) ([.ref h, .int n] : List Value).toArray s 0 0 A) (F0 m 0 ls [])
  refine lv_aload_n hx hb dX8_rests_0 rfl (lv_at hl 0 rfl) ?_
  refine va_get (D := D) (ci := 7) (v := .ref sl) (C := RX8) (T := TX8) (N := 16) hx hb hts (fun _ h => List.mem_cons_of_mem _ (List.mem_append_right _ h)) hown hK hP 0 rfl rfl 0 (by decide) (hts (.fieldLink RX8 7 "WinterWalkModel" "slot" "[I") (List.mem_of_getElem? (i := 1) rfl)) (fun _ h9 => h9) rfl dX8_rests_1 ?_
  refine lv_iconst (v := 1) hx hb dX8_rests_4 (by decide) ?_
  refine va_iald hx hb hK hP 1 0 rfl rfl (zi_in (by decide) (by decide)) dX8_rests_5 ?_
  refine lv_topi (fun x_1 ex_1 => ?_)
  have f_1 : 0 ≤ x_1.toInt ∧ x_1.toInt ≤ 8 := by rw [ex_1]; exact si_v hsi (s := 0) (by decide) (by omega)
  have g_1 : x_1.toInt = v0 := by rw [ex_1]; exact hsi.2
  refine lv_if_ne (tgt := 12) hx hb dX8_rests_6 (by decide) (fun c_2 => ?_) (fun c_2 => ?_)
  · have f_2 : ¬ x_1.toInt = 0 := zi_ne c_2
    refine lv_iload_n hx hb dX8_rests_12 rfl (lv_at hl 1 rfl) ?_
    refine lv_i2l (v := (n.toInt64)) hx hb dX8_rests_13 rfl ?_
    refine lv_lconst (v := 1) hx hb dX8_rests_14 (by decide) ?_
    refine lv_ldc2 (v := 50) hx hb hown (hts (.constantLong RX8 177 (50)) (List.mem_of_getElem? (i := 3) rfl)) dX8_rests_15 ?_
    have k_3 := (g_X8_in l D cI cB cQ s.heap.size (n.toInt64) 1 50)
    refine wc_i (WC := []) (WR := [(h, .inr (7, [.ref sl, .int na, .ref zs, .ref ln, .ref ir, .ref tk, .int su, .int le, .ref tb, .int fu, .int ap, .int pp, .ref tr, .int tc, .ref fz, .int nm])), (sl, .inl (cI, 1653, .inl sf))]) (va_runS (As := [.long (n.toInt64), .long 1, .long 50]) (rest := []) ⟨hx, hb, hml, hown, hts⟩ k_3 (va_cwS 3 hts gX8_rests_X8_in rfl rfl rfl (by decide +kernel) ⟨Nat.le_of_ble_eq_true rfl, Nat.le_of_ble_eq_true rfl⟩) (wp_S hP hK hD hN [] (by decide) rfl) rfl rfl hl.1 rfl (lv_room (Nat.le_of_ble_eq_true rfl)) dX8_rests_18 ⟨Nat.le_of_ble_eq_true rfl, Nat.le_of_ble_eq_true rfl⟩) hP hD hS hA [] [0, 1] rfl rfl (by decide) (by decide) (fun r_3 u_3 H locs hw_3 hP hD hS => ?_)
    clear k_3
    have hP : va_P D kl [(h, .inr (7, [.ref sl, .int na, .ref zs, .ref ln, .ref ir, .ref tk, .int su, .int le, .ref tb, .int fu, .int ap, .int pp, .ref tr, .int tc, .ref fz, .int nm])), (sl, .inl (cI, 1653, .inl sf))] H := hP
    have hD : va_D A [(h, .inr (7, [.ref sl, .int na, .ref zs, .ref ln, .ref ir, .ref tk, .int su, .int le, .ref tb, .int fu, .int ap, .int pp, .ref tr, .int tc, .ref fz, .int nm])), (sl, .inl (cI, 1653, .inl sf))] := hD
    have c3_0 := hw_3
    rcases c3_0 with ⟨e_3, f_3⟩ | ⟨e_3, f_3⟩
    · subst e_3
      have f_3 : (1 : Int) ≤ n.toInt ∧ n.toInt ≤ (50 : Int) := by
        have h8 := f_3
        try simp only [zl_of] at h8
        exact h8
      refine lv_if_ne (tgt := 27) hx hb dX8_rests_21 (by decide) (fun _ => ?_) (fun c9 => absurd c9 (by decide))
      refine lv_iconst (v := 0) hx hb dX8_rests_27 (by decide) ?_
      refine lv_istore_n (lv' := [(2, .int 0), (0, .ref h), (1, .int n)]) hx hb dX8_rests_28 rfl hl (by decide) rfl (fun ls hl => ?_)
      refine lv_iconst (v := 0) hx hb dX8_rests_29 (by decide) ?_
      refine lv_istore_n (lv' := [(3, .int 0), (2, .int 0), (0, .ref h), (1, .int n)]) hx hb dX8_rests_30 rfl hl (by decide) rfl (fun ls hl => ?_)
      have hL31 : ∀ (nf : Nat) (t3_c31 : Int32) (t2_c31 : Int32) (g0_c31 : Nat → Int32) (H : Heap) (locs : List Loc) (ls : Array Slot), (0 ≤ t3_c31.toInt ∧ t3_c31.toInt ≤ 8) → (SI g0_c31 v0) → (FRM (1539) (1596) sf g0_c31) → (8 - t3_c31.toInt).toNat < nf → va_P D kl [(h, .inr (7, [.ref sl, .int na, .ref zs, .ref ln, .ref ir, .ref tk, .int su, .int le, .ref tb, .int fu, .int ap, .int pp, .ref tr, .int tc, .ref fz, .int nm])), (sl, .inl (cI, 1653, .inl g0_c31))] H → va_D A [(h, .inr (7, [.ref sl, .int na, .ref zs, .ref ln, .ref ir, .ref tk, .int su, .int le, .ref tb, .int fu, .int ap, .int pp, .ref tr, .int tc, .ref fz, .int nm])), (sl, .inl (cI, 1653, .inl g0_c31))] → va_S A s.heap H locs → lv_has ls 6 [(3, .int t3_c31), (2, .int t2_c31), (0, .ref h), (1, .int n)] → W p l e ({ frames := 6, cells := 0, slots := 0, locals := 149 }) s m ([.ref h, .int n] : List Value).toArray below meth c H locs 0 0 (MQ below (va_Qi (fun (r : Int32) (u : (Nat → Int32)) => (FRM (1539) (1596) sf u) ∧ (SI u v0)) (fun u t => wb D A ((fun u => [(h, .inr (7, [.ref sl, .int na, .ref zs, .ref ln, .ref ir, .ref tk, .int su, .int le, .ref tb, .int fu, .int ap, .int pp, .ref tr, .int tc, .ref fz, .int nm])), (sl, .inl (cI, 1653, .inl u))]) u) t) A) ([.ref h, .int n] : List Value).toArray s 0 0 A) (F0 m 31 ls []) := by
        intro nf
        induction nf with
        | zero =>
          intro t3_c31 t2_c31 g0_c31 H locs ls i_t3_c31 ha_g0_c31 hf_c31 hm
          exact absurd hm (Nat.not_lt_zero _)
        | succ nf ih31 =>
          intro t3_c31 t2_c31 g0_c31 H locs ls i_t3_c31 ha_g0_c31 hf_c31 hm31 hP hD hS hl
          refine lv_iload_n hx hb dX8_rests_31 rfl (lv_at hl 0 rfl) ?_
          refine lv_aload_n hx hb dX8_rests_32 rfl (lv_at hl 2 rfl) ?_
          refine va_get (D := D) (ci := 7) (v := .ref sl) (C := RX8) (T := TX8) (N := 16) hx hb hts (fun _ h => List.mem_cons_of_mem _ (List.mem_append_right _ h)) hown hK hP 0 rfl rfl 0 (by decide) (hts (.fieldLink RX8 7 "WinterWalkModel" "slot" "[I") (List.mem_of_getElem? (i := 1) rfl)) (fun _ h9 => h9) rfl dX8_rests_33 ?_
          refine lv_iconst (v := 1) hx hb dX8_rests_36 (by decide) ?_
          refine va_iald hx hb hK hP 1 0 rfl rfl (zi_in (by decide) (by decide)) dX8_rests_37 ?_
          refine lv_topi (fun x_4 ex_4 => ?_)
          have f_4 : 0 ≤ x_4.toInt ∧ x_4.toInt ≤ 8 := by rw [ex_4]; exact si_v ha_g0_c31 (s := 0) (by decide) (by omega)
          have g_4 : x_4.toInt = v0 := by rw [ex_4]; exact ha_g0_c31.2
          refine lv_icmp_ge (tgt := 103) hx hb dX8_rests_38 (by decide) (fun c_5 => ?_) (fun c_5 => ?_)
          · have f_5 : x_4.toInt ≤ t3_c31.toInt := zi_le c_5
            refine lv_iload_n hx hb dX8_rests_103 rfl (lv_at hl 1 rfl) ?_
            exact wr_i (v := t2_c31) hx hb hr hlocks hS g0_c31 (by exact ⟨show FRM (1539) (1596) sf g0_c31 from hf_c31, ha_g0_c31⟩) (hP.sub [0, 1] rfl) (hD.sub [0, 1] (by decide) rfl) dX8_rests_104
          · have f_5 : ¬ x_4.toInt ≤ t3_c31.toInt := zi_nle c_5
            refine lv_aload_n hx hb dX8_rests_41 rfl (lv_at hl 2 rfl) ?_
            refine lv_iload_n hx hb dX8_rests_42 rfl (lv_at hl 0 rfl) ?_
            refine lv_aload_n hx hb dX8_rests_43 rfl (lv_at hl 2 rfl) ?_
            refine va_get (D := D) (ci := 7) (v := .ref sl) (C := RX8) (T := TX8) (N := 16) hx hb hts (fun _ h => List.mem_cons_of_mem _ (List.mem_append_right _ h)) hown hK hP 0 rfl rfl 0 (by decide) (hts (.fieldLink RX8 7 "WinterWalkModel" "slot" "[I") (List.mem_of_getElem? (i := 1) rfl)) (fun _ h9 => h9) rfl dX8_rests_44 ?_
            refine lv_bipush (v := 23) hx hb dX8_rests_47 (by decide) ?_
            refine lv_iload_n hx hb dX8_rests_49 rfl (lv_at hl 0 rfl) ?_
            refine lv_iadd hx hb dX8_rests_50 ?_
            refine lv_topi (fun x_6 ex_6 => ?_)
            have e_6 : x_6.toInt = 23 + t3_c31.toInt := by rw [ex_6]; exact zi_add (by decide) (rfl) (by omega) (by omega)
            clear ex_6
            refine va_iald hx hb hK hP 1 0 rfl rfl (zi_in (by omega) (by omega)) dX8_rests_51 ?_
            refine lv_topi (fun x_7 ex_7 => ?_)
            clear ex_7
            refine lv_iload_n hx hb dX8_rests_52 rfl (lv_at hl 3 rfl) ?_
            have k_8 := (f_X8_hasBy l D cI cB cQ H.size h sl zs ln ir tk tb tr fz na su le fu ap pp tc nm t3_c31 x_7 n g0_c31 v0 ha_g0_c31 (by omega) (by omega))
            refine wc_i (WC := [(h, .inr (7, [.ref sl, .int na, .ref zs, .ref ln, .ref ir, .ref tk, .int su, .int le, .ref tb, .int fu, .int ap, .int pp, .ref tr, .int tc, .ref fz, .int nm])), (sl, .inl (cI, 1653, .inl g0_c31))]) (WR := []) (va_runV (As := [.int t3_c31, .int x_7, .int n]) (rest := []) ⟨hx, hb, hml, hown, hts⟩ k_8 (cwV 3 hts gX8_rests_X8_hasBy rfl rfl rfl (by decide +kernel) ⟨Nat.le_of_ble_eq_true rfl, Nat.le_of_ble_eq_true rfl⟩) (wp_V hP hK hD hN [0, 1] (by decide) rfl (ci := 7) rfl rfl) rfl rfl hl.1 rfl (lv_room (Nat.le_of_ble_eq_true rfl)) dX8_rests_53 ⟨Nat.le_of_ble_eq_true rfl, Nat.le_of_ble_eq_true rfl⟩) hP hD hS hA [0, 1] [] rfl rfl (by decide) (by decide) (fun r_8 u_8 H locs hw_8 hP hD hS => ?_)
            clear k_8
            have hP : va_P D kl [(h, .inr (7, [.ref sl, .int na, .ref zs, .ref ln, .ref ir, .ref tk, .int su, .int le, .ref tb, .int fu, .int ap, .int pp, .ref tr, .int tc, .ref fz, .int nm])), (sl, .inl (cI, 1653, .inl u_8))] H := hP
            have hD : va_D A [(h, .inr (7, [.ref sl, .int na, .ref zs, .ref ln, .ref ir, .ref tk, .int su, .int le, .ref tb, .int fu, .int ap, .int pp, .ref tr, .int tc, .ref fz, .int nm])), (sl, .inl (cI, 1653, .inl u_8))] := hD
            obtain ⟨c8_0, c8_1⟩ := hw_8
            have c8_0 : FRM (1539) (1596) g0_c31 u_8 := c8_0
            have c8_1 : SI u_8 v0 := c8_1
            have hf_8 : FRM (1539) (1596) sf u_8 := FRM.trans hf_c31 (FRM.sub c8_0 (by omega) (by omega))
            refine lv_istore (lv' := [(4, .int r_8), (3, .int t3_c31), (2, .int t2_c31), (0, .ref h), (1, .int n)]) hx hb dX8_rests_56 hl (by decide) rfl (fun ls hl => ?_)
            refine lv_iconst (v := 0) hx hb dX8_rests_58 (by decide) ?_
            refine lv_istore (lv' := [(5, .int 0), (4, .int r_8), (3, .int t3_c31), (2, .int t2_c31), (0, .ref h), (1, .int n)]) hx hb dX8_rests_59 hl (by decide) rfl (fun ls hl => ?_)
            have hL61 : ∀ (nf : Nat) (t5_c61 : Int32) (t2_c61 : Int32) (g0_c61 : Nat → Int32) (H : Heap) (locs : List Loc) (ls : Array Slot), (0 ≤ t5_c61.toInt ∧ t5_c61.toInt ≤ 21) → (SI g0_c61 v0) → (FRM (1539) (1596) sf g0_c61) → (21 - t5_c61.toInt).toNat < nf → va_P D kl [(h, .inr (7, [.ref sl, .int na, .ref zs, .ref ln, .ref ir, .ref tk, .int su, .int le, .ref tb, .int fu, .int ap, .int pp, .ref tr, .int tc, .ref fz, .int nm])), (sl, .inl (cI, 1653, .inl g0_c61))] H → va_D A [(h, .inr (7, [.ref sl, .int na, .ref zs, .ref ln, .ref ir, .ref tk, .int su, .int le, .ref tb, .int fu, .int ap, .int pp, .ref tr, .int tc, .ref fz, .int nm])), (sl, .inl (cI, 1653, .inl g0_c61))] → va_S A s.heap H locs → lv_has ls 6 [(5, .int t5_c61), (4, .int r_8), (3, .int t3_c31), (2, .int t2_c61), (0, .ref h), (1, .int n)] → W p l e ({ frames := 6, cells := 0, slots := 0, locals := 149 }) s m ([.ref h, .int n] : List Value).toArray below meth c H locs 0 0 (MQ below (va_Qi (fun (r : Int32) (u : (Nat → Int32)) => (FRM (1539) (1596) sf u) ∧ (SI u v0)) (fun u t => wb D A ((fun u => [(h, .inr (7, [.ref sl, .int na, .ref zs, .ref ln, .ref ir, .ref tk, .int su, .int le, .ref tb, .int fu, .int ap, .int pp, .ref tr, .int tc, .ref fz, .int nm])), (sl, .inl (cI, 1653, .inl u))]) u) t) A) ([.ref h, .int n] : List Value).toArray s 0 0 A) (F0 m 61 ls []) := by
              intro nf
              induction nf with
              | zero =>
                intro t5_c61 t2_c61 g0_c61 H locs ls i_t5_c61 ha_g0_c61 hf_c61 hm
                exact absurd hm (Nat.not_lt_zero _)
              | succ nf ih61 =>
                intro t5_c61 t2_c61 g0_c61 H locs ls i_t5_c61 ha_g0_c61 hf_c61 hm61 hP hD hS hl
                refine lv_iload hx hb dX8_rests_61 (lv_at hl 0 rfl) ?_
                refine lv_bipush (v := 21) hx hb dX8_rests_63 (by decide) ?_
                refine lv_icmp_ge (tgt := 97) hx hb dX8_rests_65 (by decide) (fun c_9 => ?_) (fun c_9 => ?_)
                · have f_9 : 21 ≤ t5_c61.toInt := zi_le c_9
                  obtain ⟨x_10, ex_10⟩ : ∃ y : Int32, y = t3_c31 + Int32.ofInt 1 := ⟨_, rfl⟩
                  refine lv_iinc (v := x_10) (lv' := [(3, .int x_10), (5, .int t5_c61), (4, .int r_8), (2, .int t2_c61), (0, .ref h), (1, .int n)]) hx hb dX8_rests_97 hl (k := 2) rfl ex_10.symm (by decide) rfl (fun ls hl => ?_)
                  have ex_10 : x_10 = t3_c31 + 1 := ex_10
                  have e_10 : x_10.toInt = t3_c31.toInt + 1 := by rw [ex_10]; exact zi_add (rfl) (by decide) (by omega) (by omega)
                  clear ex_10
                  refine lv_goto (tgt := 31) hx hb dX8_rests_100 (by decide) ?_
                  exact ih31 x_10 t2_c61 g0_c61 _ _ _ (show 0 ≤ x_10.toInt ∧ x_10.toInt ≤ 8 from by omega) ha_g0_c61 hf_c61 (by omega) (hP.sub [0, 1] rfl) (hD.sub [0, 1] (by decide) rfl) hS (lv_sub hl [0, 3, 4, 5] rfl)
                · have f_9 : ¬ 21 ≤ t5_c61.toInt := zi_nle c_9
                  refine lv_iload_n hx hb dX8_rests_68 rfl (lv_at hl 3 rfl) ?_
                  refine lv_aload_n hx hb dX8_rests_69 rfl (lv_at hl 4 rfl) ?_
                  refine lv_iload_n hx hb dX8_rests_70 rfl (lv_at hl 2 rfl) ?_
                  refine lv_iload hx hb dX8_rests_71 (lv_at hl 0 rfl) ?_
                  refine lv_iload_n hx hb dX8_rests_73 rfl (lv_at hl 5 rfl) ?_
                  have k_11 := (f_X8_hasBy l D cI cB cQ H.size h sl zs ln ir tk tb tr fz na su le fu ap pp tc nm t3_c31 t5_c61 n g0_c61 v0 ha_g0_c61 (by omega) (by omega))
                  refine wc_i (WC := [(h, .inr (7, [.ref sl, .int na, .ref zs, .ref ln, .ref ir, .ref tk, .int su, .int le, .ref tb, .int fu, .int ap, .int pp, .ref tr, .int tc, .ref fz, .int nm])), (sl, .inl (cI, 1653, .inl g0_c61))]) (WR := []) (va_runV (As := [.int t3_c31, .int t5_c61, .int n]) (rest := [.int t2_c61]) ⟨hx, hb, hml, hown, hts⟩ k_11 (cwV 3 hts gX8_rests_X8_hasBy rfl rfl rfl (by decide +kernel) ⟨Nat.le_of_ble_eq_true rfl, Nat.le_of_ble_eq_true rfl⟩) (wp_V hP hK hD hN [0, 1] (by decide) rfl (ci := 7) rfl rfl) rfl rfl hl.1 rfl (lv_room (Nat.le_of_ble_eq_true rfl)) dX8_rests_74 ⟨Nat.le_of_ble_eq_true rfl, Nat.le_of_ble_eq_true rfl⟩) hP hD hS hA [0, 1] [] rfl rfl (by decide) (by decide) (fun r_11 u_11 H locs hw_11 hP hD hS => ?_)
                  clear k_11
                  have hP : va_P D kl [(h, .inr (7, [.ref sl, .int na, .ref zs, .ref ln, .ref ir, .ref tk, .int su, .int le, .ref tb, .int fu, .int ap, .int pp, .ref tr, .int tc, .ref fz, .int nm])), (sl, .inl (cI, 1653, .inl u_11))] H := hP
                  have hD : va_D A [(h, .inr (7, [.ref sl, .int na, .ref zs, .ref ln, .ref ir, .ref tk, .int su, .int le, .ref tb, .int fu, .int ap, .int pp, .ref tr, .int tc, .ref fz, .int nm])), (sl, .inl (cI, 1653, .inl u_11))] := hD
                  obtain ⟨c11_0, c11_1⟩ := hw_11
                  have c11_0 : FRM (1539) (1596) g0_c61 u_11 := c11_0
                  have c11_1 : SI u_11 v0 := c11_1
                  have hf_11 : FRM (1539) (1596) sf u_11 := FRM.trans hf_c61 (FRM.sub c11_0 (by omega) (by omega))
                  refine lv_iload hx hb dX8_rests_77 (lv_at hl 1 rfl) ?_
                  refine lv_icmp_le (tgt := 88) hx hb dX8_rests_79 (by decide) (fun c_12 => ?_) (fun c_12 => ?_)
                  · have f_12 : r_11.toInt ≤ r_8.toInt := zi_le c_12
                    refine lv_iconst (v := 0) hx hb dX8_rests_88 (by decide) ?_
                    refine lv_ior hx hb dX8_rests_89 ?_
                    refine lv_topi (fun x_13 ex_13 => ?_)
                    clear ex_13
                    refine lv_istore_n (lv' := [(2, .int x_13), (5, .int t5_c61), (4, .int r_8), (3, .int t3_c31), (0, .ref h), (1, .int n)]) hx hb dX8_rests_90 rfl hl (by decide) rfl (fun ls hl => ?_)
                    obtain ⟨x_14, ex_14⟩ : ∃ y : Int32, y = t5_c61 + Int32.ofInt 1 := ⟨_, rfl⟩
                    refine lv_iinc (v := x_14) (lv' := [(5, .int x_14), (2, .int x_13), (4, .int r_8), (3, .int t3_c31), (0, .ref h), (1, .int n)]) hx hb dX8_rests_91 hl (k := 1) rfl ex_14.symm (by decide) rfl (fun ls hl => ?_)
                    have ex_14 : x_14 = t5_c61 + 1 := ex_14
                    have e_14 : x_14.toInt = t5_c61.toInt + 1 := by rw [ex_14]; exact zi_add (rfl) (by decide) (by omega) (by omega)
                    clear ex_14
                    refine lv_goto (tgt := 61) hx hb dX8_rests_94 (by decide) ?_
                    exact ih61 x_14 x_13 u_11 _ _ _ (show 0 ≤ x_14.toInt ∧ x_14.toInt ≤ 21 from by omega) c11_1 hf_11 (by omega) (hP.sub [0, 1] rfl) (hD.sub [0, 1] (by decide) rfl) hS (lv_sub hl [0, 2, 3, 1, 4, 5] rfl)
                  · have f_12 : ¬ r_11.toInt ≤ r_8.toInt := zi_nle c_12
                    refine lv_iconst (v := 1) hx hb dX8_rests_82 (by decide) ?_
                    refine lv_iload_n hx hb dX8_rests_83 rfl (lv_at hl 2 rfl) ?_
                    refine lv_ishl hx hb dX8_rests_84 ?_
                    refine lv_topi (fun x_15 ex_15 => ?_)
                    have e_15 : 1 ≤ x_15.toInt ∧ x_15.toInt ≤ 256 := by rw [ex_15]; exact zi_sh (by omega)
                    clear ex_15
                    refine lv_goto (tgt := 89) hx hb dX8_rests_85 (by decide) ?_
                    refine lv_ior hx hb dX8_rests_89 ?_
                    refine lv_topi (fun x_16 ex_16 => ?_)
                    clear ex_16
                    refine lv_istore_n (lv' := [(2, .int x_16), (5, .int t5_c61), (4, .int r_8), (3, .int t3_c31), (0, .ref h), (1, .int n)]) hx hb dX8_rests_90 rfl hl (by decide) rfl (fun ls hl => ?_)
                    obtain ⟨x_17, ex_17⟩ : ∃ y : Int32, y = t5_c61 + Int32.ofInt 1 := ⟨_, rfl⟩
                    refine lv_iinc (v := x_17) (lv' := [(5, .int x_17), (2, .int x_16), (4, .int r_8), (3, .int t3_c31), (0, .ref h), (1, .int n)]) hx hb dX8_rests_91 hl (k := 1) rfl ex_17.symm (by decide) rfl (fun ls hl => ?_)
                    have ex_17 : x_17 = t5_c61 + 1 := ex_17
                    have e_17 : x_17.toInt = t5_c61.toInt + 1 := by rw [ex_17]; exact zi_add (rfl) (by decide) (by omega) (by omega)
                    clear ex_17
                    refine lv_goto (tgt := 61) hx hb dX8_rests_94 (by decide) ?_
                    exact ih61 x_17 x_16 u_11 _ _ _ (show 0 ≤ x_17.toInt ∧ x_17.toInt ≤ 21 from by omega) c11_1 hf_11 (by omega) (hP.sub [0, 1] rfl) (hD.sub [0, 1] (by decide) rfl) hS (lv_sub hl [0, 2, 3, 1, 4, 5] rfl)
            exact hL61 (((21 - (0 : Int32).toInt).toNat) + 1) 0 t2_c31 u_8 _ _ _ (show 0 ≤ 0 ∧ 0 ≤ 21 from by omega) c8_1 hf_8 (Nat.lt_succ_self _) (hP.sub [0, 1] rfl) (hD.sub [0, 1] (by decide) rfl) hS (lv_sub hl [0, 1, 2, 3, 4, 5] rfl)
      exact hL31 (((8 - (0 : Int32).toInt).toNat) + 1) 0 0 sf _ _ _ (show 0 ≤ 0 ∧ 0 ≤ 8 from by omega) hsi FRM.refl (Nat.lt_succ_self _) (hP.sub [0, 1] rfl) (hD.sub [0, 1] (by decide) rfl) hS (lv_sub hl [0, 1, 2, 3] rfl)
    · subst e_3
      have f_3 : ¬ ((1 : Int) ≤ n.toInt ∧ n.toInt ≤ (50 : Int)) := by
        have h8 := f_3
        try simp only [zl_of] at h8
        exact h8
      refine lv_if_ne (tgt := 27) hx hb dX8_rests_21 (by decide) (fun c9 => absurd (by decide) c9) (fun _ => ?_)
      refine lv_ldc (v := (-1000001)) hx hb hown (hts (.constant RX8 48 (-1000001)) (List.mem_of_getElem? (i := 4) rfl)) dX8_rests_24 ?_
      exact wr_i (v := (-1000001)) hx hb hr hlocks hS sf (by exact ⟨show FRM (1539) (1596) sf sf from FRM.refl, hsi⟩) (hP.sub [0, 1] rfl) (hD.sub [0, 1] (by decide) rfl) dX8_rests_26
  · have f_2 : x_1.toInt = 0 := zi_eq c_2
    refine lv_ldc (v := (-1000002)) hx hb hown (hts (.constant RX8 121 (-1000002)) (List.mem_of_getElem? (i := 2) rfl)) dX8_rests_9 ?_
    exact wr_i (v := (-1000002)) hx hb hr hlocks hS sf (by exact ⟨show FRM (1539) (1596) sf sf from FRM.refl, hsi⟩) (hP.sub [0, 1] rfl) (hD.sub [0, 1] (by decide) rfl) dX8_rests_11
set_option maxHeartbeats 4000000 in
set_option maxRecDepth 100000 in
theorem f_X8_round (l : Launch) (D : va_G) (cI cB cQ : ClassId) (sz : Nat) (h : Nat) (sl : Nat) (zs : Nat) (ln : Nat) (ir : Nat) (tk : Nat) (tb : Nat) (tr : Nat) (fz : Nat) (na : Int32) (su : Int32) (le : Int32) (fu : Int32) (ap : Int32) (pp : Int32) (tc : Int32) (nm : Int32) (v : Int32) (sf : Nat → Int32) (v0 : Int) (hsi : SI sf v0) : mi l yX8_round wsX8_round ({ frames := 5, cells := 0, slots := 0, locals := 122 }) D cI cB cQ [.ref h, .int v] sz [(h, .inr (7, [.ref sl, .int na, .ref zs, .ref ln, .ref ir, .ref tk, .int su, .int le, .ref tb, .int fu, .int ap, .int pp, .ref tr, .int tc, .ref fz, .int nm])), (sl, .inl (cI, 1653, .inl sf))] (fun (r : Int32) (u : (Nat → Int32)) => (FRM (1539) (1596) sf u) ∧ (SI u v0)) (fun u => [(h, .inr (7, [.ref sl, .int na, .ref zs, .ref ln, .ref ir, .ref tk, .int su, .int le, .ref tb, .int fu, .int ap, .int pp, .ref tr, .int tc, .ref fz, .int nm])), (sl, .inl (cI, 1653, .inl u))]) 0 0 := by
  refine wm_i (cc := cX8_round) (maxL := 4) (ret := (some .int)) (by decide) rfl (Nat.le_of_ble_eq_true rfl) ?_
  intro p e s m below meth c A ls hx hb hr hml hown hts hlocks hin hP hK hD hN hA hl hS
  have hown : s.vm.findClass RX8 = some m.cls := hown
  have hl : lv_has ls 4 [(0, .ref h), (1, .int v)] := hl
  change W p l e ({ frames := 5, cells := 0, slots := 0, locals := 122 }) s m ([.ref h, .int v] : List Value).toArray below meth c s.heap [] 0 0 (MQ below (va_Qi (fun (r : Int32) (u : (Nat → Int32)) => (FRM (1539) (1596) sf u) ∧ (SI u v0)) (fun u t => wb D A ((fun u => [(h, .inr (7, [.ref sl, .int na, .ref zs, .ref ln, .ref ir, .ref tk, .int su, .int le, .ref tb, .int fu, .int ap, .int pp, .ref tr, .int tc, .ref fz, .int nm])), (sl, .inl (cI, 1653, .inl u))]) u) t) A) ([.ref h, .int v] : List Value).toArray s 0 0 A) (F0 m 0 ls [])
  refine lv_aload_n hx hb dX8_round_0 rfl (lv_at hl 0 rfl) ?_
  refine lv_iload_n hx hb dX8_round_1 rfl (lv_at hl 1 rfl) ?_
  have k_1 := (g_X8_isWalkerThere l D cI cB cQ s.heap.size h sl zs ln ir tk tb tr fz na su le fu ap pp tc nm v sf v0 hsi)
  refine wc_i (WC := [(h, .inr (7, [.ref sl, .int na, .ref zs, .ref ln, .ref ir, .ref tk, .int su, .int le, .ref tb, .int fu, .int ap, .int pp, .ref tr, .int tc, .ref fz, .int nm])), (sl, .inl (cI, 1653, .inl sf))]) (WR := []) (va_runV (As := [.int v]) (rest := []) ⟨hx, hb, hml, hown, hts⟩ k_1 (cwV 1 hts gX8_round_X8_isWalkerThere rfl rfl rfl (by decide +kernel) ⟨Nat.le_of_ble_eq_true rfl, Nat.le_of_ble_eq_true rfl⟩) (wp_V hP hK hD hN [0, 1] (by decide) rfl (ci := 7) rfl rfl) rfl rfl hl.1 rfl (lv_room (Nat.le_of_ble_eq_true rfl)) dX8_round_2 ⟨Nat.le_of_ble_eq_true rfl, Nat.le_of_ble_eq_true rfl⟩) hP hD hS hA [0, 1] [] rfl rfl (by decide) (by decide) (fun r_1 u_1 H locs hw_1 hP hD hS => ?_)
  clear k_1
  have hP : va_P D kl [(h, .inr (7, [.ref sl, .int na, .ref zs, .ref ln, .ref ir, .ref tk, .int su, .int le, .ref tb, .int fu, .int ap, .int pp, .ref tr, .int tc, .ref fz, .int nm])), (sl, .inl (cI, 1653, .inl sf))] H := hP
  have hD : va_D A [(h, .inr (7, [.ref sl, .int na, .ref zs, .ref ln, .ref ir, .ref tk, .int su, .int le, .ref tb, .int fu, .int ap, .int pp, .ref tr, .int tc, .ref fz, .int nm])), (sl, .inl (cI, 1653, .inl sf))] := hD
  have c1_0 := hw_1
  rcases c1_0 with ⟨e_1, f_1⟩ | e_1
  · subst e_1
    have f_1 : 0 ≤ v.toInt ∧ v.toInt ≤ 2 := f_1
    refine lv_if_ne (tgt := 11) hx hb dX8_round_5 (by decide) (fun _ => ?_) (fun c9 => absurd c9 (by decide))
    refine lv_aload_n hx hb dX8_round_11 rfl (lv_at hl 0 rfl) ?_
    refine lv_iconst (v := 0) hx hb dX8_round_12 (by decide) ?_
    refine lv_bipush (v := 27) hx hb dX8_round_13 (by decide) ?_
    have k_2 := (f_X8_copies l D cI cB cQ H.size h sl zs ln ir tk tb tr fz na su le fu ap pp tc nm 0 27 sf v0 hsi ⟨by decide, by decide⟩ ⟨by decide, by decide⟩ (by have hk0 : (0 : Int32).toInt = 0 := (by decide); have hk1 : (27 : Int32).toInt = 27 := (by decide); omega))
    refine wc_v (WC := [(h, .inr (7, [.ref sl, .int na, .ref zs, .ref ln, .ref ir, .ref tk, .int su, .int le, .ref tb, .int fu, .int ap, .int pp, .ref tr, .int tc, .ref fz, .int nm])), (sl, .inl (cI, 1653, .inl sf))]) (WR := []) (va_runV (As := [.int 0, .int 27]) (rest := []) ⟨hx, hb, hml, hown, hts⟩ k_2 (cwV 2 hts gX8_round_X8_copies rfl rfl rfl (by decide +kernel) ⟨Nat.le_of_ble_eq_true rfl, Nat.le_of_ble_eq_true rfl⟩) (wp_V hP hK hD hN [0, 1] (by decide) rfl (ci := 7) rfl rfl) rfl rfl hl.1 rfl (lv_room (Nat.le_of_ble_eq_true rfl)) dX8_round_15 ⟨Nat.le_of_ble_eq_true rfl, Nat.le_of_ble_eq_true rfl⟩) hP hD hS hA [0, 1] [] rfl rfl (by decide) (by decide) (fun u_2 H locs hw_2 hP hD hS => ?_)
    clear k_2
    have hP : va_P D kl [(h, .inr (7, [.ref sl, .int na, .ref zs, .ref ln, .ref ir, .ref tk, .int su, .int le, .ref tb, .int fu, .int ap, .int pp, .ref tr, .int tc, .ref fz, .int nm])), (sl, .inl (cI, 1653, .inl u_2))] H := hP
    have hD : va_D A [(h, .inr (7, [.ref sl, .int na, .ref zs, .ref ln, .ref ir, .ref tk, .int su, .int le, .ref tb, .int fu, .int ap, .int pp, .ref tr, .int tc, .ref fz, .int nm])), (sl, .inl (cI, 1653, .inl u_2))] := hD
    obtain ⟨c2_0, c2_1, c2_2⟩ := hw_2
    have c2_0 : ∀ q : Nat, q < 57 → u_2 (57 * (27 : Int).toNat + q) = sf (57 * (0 : Int).toNat + q) := c2_0
    have c2_1 : FRM ((57 * (27 : Int))) ((57 * (27 : Int) + 57)) sf u_2 := c2_1
    have c2_2 : SI u_2 v0 := c2_2
    have hf_2 : FRM (1539) (1596) sf u_2 := FRM.trans FRM.refl (FRM.sub c2_1 (by omega) (by omega))
    refine lv_iconst (v := 0) hx hb dX8_round_18 (by decide) ?_
    refine lv_istore_n (lv' := [(2, .int 0), (0, .ref h), (1, .int v)]) hx hb dX8_round_19 rfl hl (by decide) rfl (fun ls hl => ?_)
    refine lv_iconst (v := 0) hx hb dX8_round_20 (by decide) ?_
    refine lv_istore_n (lv' := [(3, .int 0), (2, .int 0), (0, .ref h), (1, .int v)]) hx hb dX8_round_21 rfl hl (by decide) rfl (fun ls hl => ?_)
    have hL22 : ∀ (nf : Nat) (t3_c22 : Int32) (t2_c22 : Int32) (g0_c22 : Nat → Int32) (H : Heap) (locs : List Loc) (ls : Array Slot), (0 ≤ t3_c22.toInt ∧ t3_c22.toInt ≤ 200) → (SI g0_c22 v0) → (FRM (1539) (1596) sf g0_c22) → (200 - t3_c22.toInt).toNat < nf → va_P D kl [(h, .inr (7, [.ref sl, .int na, .ref zs, .ref ln, .ref ir, .ref tk, .int su, .int le, .ref tb, .int fu, .int ap, .int pp, .ref tr, .int tc, .ref fz, .int nm])), (sl, .inl (cI, 1653, .inl g0_c22))] H → va_D A [(h, .inr (7, [.ref sl, .int na, .ref zs, .ref ln, .ref ir, .ref tk, .int su, .int le, .ref tb, .int fu, .int ap, .int pp, .ref tr, .int tc, .ref fz, .int nm])), (sl, .inl (cI, 1653, .inl g0_c22))] → va_S A s.heap H locs → lv_has ls 4 [(3, .int t3_c22), (2, .int t2_c22), (0, .ref h), (1, .int v)] → W p l e ({ frames := 5, cells := 0, slots := 0, locals := 122 }) s m ([.ref h, .int v] : List Value).toArray below meth c H locs 0 0 (MQ below (va_Qi (fun (r : Int32) (u : (Nat → Int32)) => (FRM (1539) (1596) sf u) ∧ (SI u v0)) (fun u t => wb D A ((fun u => [(h, .inr (7, [.ref sl, .int na, .ref zs, .ref ln, .ref ir, .ref tk, .int su, .int le, .ref tb, .int fu, .int ap, .int pp, .ref tr, .int tc, .ref fz, .int nm])), (sl, .inl (cI, 1653, .inl u))]) u) t) A) ([.ref h, .int v] : List Value).toArray s 0 0 A) (F0 m 22 ls []) := by
      intro nf
      induction nf with
      | zero =>
        intro t3_c22 t2_c22 g0_c22 H locs ls i_t3_c22 ha_g0_c22 hf_c22 hm
        exact absurd hm (Nat.not_lt_zero _)
      | succ nf ih22 =>
        intro t3_c22 t2_c22 g0_c22 H locs ls i_t3_c22 ha_g0_c22 hf_c22 hm22 hP hD hS hl
        refine lv_iload_n hx hb dX8_round_22 rfl (lv_at hl 0 rfl) ?_
        refine lv_sipush (v := 200) hx hb dX8_round_23 (by decide) ?_
        refine lv_icmp_ge (tgt := 67) hx hb dX8_round_26 (by decide) (fun c_3 => ?_) (fun c_3 => ?_)
        · have f_3 : 200 ≤ t3_c22.toInt := zi_le c_3
          refine lv_iload_n hx hb dX8_round_67 rfl (lv_at hl 1 rfl) ?_
          exact wr_i (v := t2_c22) hx hb hr hlocks hS g0_c22 (by exact ⟨show FRM (1539) (1596) sf g0_c22 from hf_c22, ha_g0_c22⟩) (hP.sub [0, 1] rfl) (hD.sub [0, 1] (by decide) rfl) dX8_round_68
        · have f_3 : ¬ 200 ≤ t3_c22.toInt := zi_nle c_3
          refine lv_aload_n hx hb dX8_round_29 rfl (lv_at hl 2 rfl) ?_
          refine lv_bipush (v := 27) hx hb dX8_round_30 (by decide) ?_
          refine lv_iconst (v := (-1)) hx hb dX8_round_32 (by decide) ?_
          have k_4 := (f_X8_day l D cI cB cQ H.size h sl zs ln ir tk tb tr fz na su le fu ap pp tc nm 27 (-1) g0_c22 v0 ha_g0_c22 ⟨by decide, by decide⟩)
          refine wc_v (WC := [(h, .inr (7, [.ref sl, .int na, .ref zs, .ref ln, .ref ir, .ref tk, .int su, .int le, .ref tb, .int fu, .int ap, .int pp, .ref tr, .int tc, .ref fz, .int nm])), (sl, .inl (cI, 1653, .inl g0_c22))]) (WR := []) (va_runV (As := [.int 27, .int (-1)]) (rest := []) ⟨hx, hb, hml, hown, hts⟩ k_4 (cwV 2 hts gX8_round_X8_day rfl rfl rfl (by decide +kernel) ⟨Nat.le_of_ble_eq_true rfl, Nat.le_of_ble_eq_true rfl⟩) (wp_V hP hK hD hN [0, 1] (by decide) rfl (ci := 7) rfl rfl) rfl rfl hl.1 rfl (lv_room (Nat.le_of_ble_eq_true rfl)) dX8_round_33 ⟨Nat.le_of_ble_eq_true rfl, Nat.le_of_ble_eq_true rfl⟩) hP hD hS hA [0, 1] [] rfl rfl (by decide) (by decide) (fun u_4 H locs hw_4 hP hD hS => ?_)
          clear k_4
          have hP : va_P D kl [(h, .inr (7, [.ref sl, .int na, .ref zs, .ref ln, .ref ir, .ref tk, .int su, .int le, .ref tb, .int fu, .int ap, .int pp, .ref tr, .int tc, .ref fz, .int nm])), (sl, .inl (cI, 1653, .inl u_4))] H := hP
          have hD : va_D A [(h, .inr (7, [.ref sl, .int na, .ref zs, .ref ln, .ref ir, .ref tk, .int su, .int le, .ref tb, .int fu, .int ap, .int pp, .ref tr, .int tc, .ref fz, .int nm])), (sl, .inl (cI, 1653, .inl u_4))] := hD
          obtain ⟨c4_0, c4_1⟩ := hw_4
          have c4_0 : FRM (57 * (27 : Int) + 31) (57 * (27 : Int) + 57) g0_c22 u_4 := c4_0
          have c4_1 : SI u_4 v0 := c4_1
          have hf_4 : FRM (1539) (1596) sf u_4 := FRM.trans hf_c22 (FRM.sub c4_0 (by omega) (by omega))
          refine lv_iload_n hx hb dX8_round_36 rfl (lv_at hl 1 rfl) ?_
          refine lv_iload_n hx hb dX8_round_37 rfl (lv_at hl 0 rfl) ?_
          refine lv_bipush (v := 100) hx hb dX8_round_38 (by decide) ?_
          refine lv_icmp_ge (tgt := 47) hx hb dX8_round_40 (by decide) (fun c_5 => ?_) (fun c_5 => ?_)
          · have f_5 : 100 ≤ t3_c22.toInt := zi_le c_5
            refine lv_iconst (v := 1) hx hb dX8_round_47 (by decide) ?_
            refine lv_aload_n hx hb dX8_round_48 rfl (lv_at hl 2 rfl) ?_
            refine va_get (D := D) (ci := 7) (v := .ref sl) (C := RX8) (T := TX8) (N := 16) hx hb hts (fun _ h => List.mem_cons_of_mem _ (List.mem_append_right _ h)) hown hK hP 0 rfl rfl 0 (by decide) (hts (.fieldLink RX8 7 "WinterWalkModel" "slot" "[I") (List.mem_of_getElem? (i := 2) rfl)) (fun _ h9 => h9) rfl dX8_round_49 ?_
            refine lv_sipush (v := 1587) hx hb dX8_round_52 (by decide) ?_
            refine lv_iload_n hx hb dX8_round_55 rfl (lv_at hl 3 rfl) ?_
            refine lv_iadd hx hb dX8_round_56 ?_
            refine lv_topi (fun x_6 ex_6 => ?_)
            have e_6 : x_6.toInt = 1587 + v.toInt := by rw [ex_6]; exact zi_add (by decide) (rfl) (by omega) (by omega)
            clear ex_6
            refine va_iald hx hb hK hP 1 0 rfl rfl (zi_in (by omega) (by omega)) dX8_round_57 ?_
            refine lv_topi (fun x_7 ex_7 => ?_)
            have f_7 : 0 ≤ x_7.toInt ∧ x_7.toInt ≤ 7 := by rw [ex_7]; exact si_a c4_1 (s := 27) (k := v.toInt) (by omega) (by omega) (by omega)
            clear ex_7
            refine lv_ishl hx hb dX8_round_58 ?_
            refine lv_topi (fun x_8 ex_8 => ?_)
            have e_8 : 1 ≤ x_8.toInt ∧ x_8.toInt ≤ 256 := by rw [ex_8]; exact zi_sh (by omega)
            clear ex_8
            refine lv_ior hx hb dX8_round_59 ?_
            refine lv_topi (fun x_9 ex_9 => ?_)
            clear ex_9
            refine lv_istore_n (lv' := [(2, .int x_9), (3, .int t3_c22), (0, .ref h), (1, .int v)]) hx hb dX8_round_60 rfl hl (by decide) rfl (fun ls hl => ?_)
            obtain ⟨x_10, ex_10⟩ : ∃ y : Int32, y = t3_c22 + Int32.ofInt 1 := ⟨_, rfl⟩
            refine lv_iinc (v := x_10) (lv' := [(3, .int x_10), (2, .int x_9), (0, .ref h), (1, .int v)]) hx hb dX8_round_61 hl (k := 1) rfl ex_10.symm (by decide) rfl (fun ls hl => ?_)
            have ex_10 : x_10 = t3_c22 + 1 := ex_10
            have e_10 : x_10.toInt = t3_c22.toInt + 1 := by rw [ex_10]; exact zi_add (rfl) (by decide) (by omega) (by omega)
            clear ex_10
            refine lv_goto (tgt := 22) hx hb dX8_round_64 (by decide) ?_
            exact ih22 x_10 x_9 u_4 _ _ _ (show 0 ≤ x_10.toInt ∧ x_10.toInt ≤ 200 from by omega) c4_1 hf_4 (by omega) (hP.sub [0, 1] rfl) (hD.sub [0, 1] (by decide) rfl) hS (lv_sub hl [0, 1, 2, 3] rfl)
          · have f_5 : ¬ 100 ≤ t3_c22.toInt := zi_nle c_5
            refine lv_iconst (v := 0) hx hb dX8_round_43 (by decide) ?_
            refine lv_goto (tgt := 59) hx hb dX8_round_44 (by decide) ?_
            refine lv_ior hx hb dX8_round_59 ?_
            refine lv_topi (fun x_11 ex_11 => ?_)
            clear ex_11
            refine lv_istore_n (lv' := [(2, .int x_11), (3, .int t3_c22), (0, .ref h), (1, .int v)]) hx hb dX8_round_60 rfl hl (by decide) rfl (fun ls hl => ?_)
            obtain ⟨x_12, ex_12⟩ : ∃ y : Int32, y = t3_c22 + Int32.ofInt 1 := ⟨_, rfl⟩
            refine lv_iinc (v := x_12) (lv' := [(3, .int x_12), (2, .int x_11), (0, .ref h), (1, .int v)]) hx hb dX8_round_61 hl (k := 1) rfl ex_12.symm (by decide) rfl (fun ls hl => ?_)
            have ex_12 : x_12 = t3_c22 + 1 := ex_12
            have e_12 : x_12.toInt = t3_c22.toInt + 1 := by rw [ex_12]; exact zi_add (rfl) (by decide) (by omega) (by omega)
            clear ex_12
            refine lv_goto (tgt := 22) hx hb dX8_round_64 (by decide) ?_
            exact ih22 x_12 x_11 u_4 _ _ _ (show 0 ≤ x_12.toInt ∧ x_12.toInt ≤ 200 from by omega) c4_1 hf_4 (by omega) (hP.sub [0, 1] rfl) (hD.sub [0, 1] (by decide) rfl) hS (lv_sub hl [0, 1, 2, 3] rfl)
    exact hL22 (((200 - (0 : Int32).toInt).toNat) + 1) 0 0 u_2 _ _ _ (show 0 ≤ 0 ∧ 0 ≤ 200 from by omega) c2_2 hf_2 (Nat.lt_succ_self _) (hP.sub [0, 1] rfl) (hD.sub [0, 1] (by decide) rfl) hS (lv_sub hl [0, 1, 2, 3] rfl)
  · subst e_1
    refine lv_if_ne (tgt := 11) hx hb dX8_round_5 (by decide) (fun c9 => absurd (by decide) c9) (fun _ => ?_)
    refine lv_ldc (v := (-1000001)) hx hb hown (hts (.constant RX8 48 (-1000001)) (List.mem_of_getElem? (i := 1) rfl)) dX8_round_8 ?_
    exact wr_i (v := (-1000001)) hx hb hr hlocks hS sf (by exact ⟨show FRM (1539) (1596) sf sf from FRM.refl, hsi⟩) (hP.sub [0, 1] rfl) (hD.sub [0, 1] (by decide) rfl) dX8_round_10
set_option maxHeartbeats 4000000 in
set_option maxRecDepth 100000 in
theorem f_X8_meet (l : Launch) (D : va_G) (cI cB cQ : ClassId) (sz : Nat) (h : Nat) (sl : Nat) (zs : Nat) (ln : Nat) (ir : Nat) (tk : Nat) (tb : Nat) (tr : Nat) (fz : Nat) (na : Int32) (su : Int32) (le : Int32) (fu : Int32) (ap : Int32) (pp : Int32) (tc : Int32) (nm : Int32) (n : Int32) (k : Int32) (sf : Nat → Int32) (v0 : Int) (hsi : SI sf v0) : mi l yX8_meet wsX8_meet ({ frames := 5, cells := 0, slots := 0, locals := 122 }) D cI cB cQ [.ref h, .int n, .int k] sz [(h, .inr (7, [.ref sl, .int na, .ref zs, .ref ln, .ref ir, .ref tk, .int su, .int le, .ref tb, .int fu, .int ap, .int pp, .ref tr, .int tc, .ref fz, .int nm])), (sl, .inl (cI, 1653, .inl sf))] (fun (r : Int32) (u : (Nat → Int32)) => (FRM (1539) (1596) sf u) ∧ (SI u v0)) (fun u => [(h, .inr (7, [.ref sl, .int na, .ref zs, .ref ln, .ref ir, .ref tk, .int su, .int le, .ref tb, .int fu, .int ap, .int pp, .ref tr, .int tc, .ref fz, .int nm])), (sl, .inl (cI, 1653, .inl u))]) 0 0 := by
  refine wm_i (cc := cX8_meet) (maxL := 5) (ret := (some .int)) (by decide) rfl (Nat.le_of_ble_eq_true rfl) ?_
  intro p e s m below meth c A ls hx hb hr hml hown hts hlocks hin hP hK hD hN hA hl hS
  have hown : s.vm.findClass RX8 = some m.cls := hown
  have hl : lv_has ls 5 [(0, .ref h), (1, .int n), (2, .int k)] := hl
  change W p l e ({ frames := 5, cells := 0, slots := 0, locals := 122 }) s m ([.ref h, .int n, .int k] : List Value).toArray below meth c s.heap [] 0 0 (MQ below (va_Qi (fun (r : Int32) (u : (Nat → Int32)) => (FRM (1539) (1596) sf u) ∧ (SI u v0)) (fun u t => wb D A ((fun u => [(h, .inr (7, [.ref sl, .int na, .ref zs, .ref ln, .ref ir, .ref tk, .int su, .int le, .ref tb, .int fu, .int ap, .int pp, .ref tr, .int tc, .ref fz, .int nm])), (sl, .inl (cI, 1653, .inl u))]) u) t) A) ([.ref h, .int n, .int k] : List Value).toArray s 0 0 A) (F0 m 0 ls [])
  refine lv_aload_n hx hb dX8_meet_0 rfl (lv_at hl 0 rfl) ?_
  refine va_get (D := D) (ci := 7) (v := .ref sl) (C := RX8) (T := TX8) (N := 16) hx hb hts (fun _ h => List.mem_cons_of_mem _ (List.mem_append_right _ h)) hown hK hP 0 rfl rfl 0 (by decide) (hts (.fieldLink RX8 7 "WinterWalkModel" "slot" "[I") (List.mem_of_getElem? (i := 1) rfl)) (fun _ h9 => h9) rfl dX8_meet_1 ?_
  refine lv_iconst (v := 1) hx hb dX8_meet_4 (by decide) ?_
  refine va_iald hx hb hK hP 1 0 rfl rfl (zi_in (by decide) (by decide)) dX8_meet_5 ?_
  refine lv_topi (fun x_1 ex_1 => ?_)
  have f_1 : 0 ≤ x_1.toInt ∧ x_1.toInt ≤ 8 := by rw [ex_1]; exact si_v hsi (s := 0) (by decide) (by omega)
  have g_1 : x_1.toInt = v0 := by rw [ex_1]; exact hsi.2
  refine lv_if_ne (tgt := 12) hx hb dX8_meet_6 (by decide) (fun c_2 => ?_) (fun c_2 => ?_)
  · have f_2 : ¬ x_1.toInt = 0 := zi_ne c_2
    refine lv_iload_n hx hb dX8_meet_12 rfl (lv_at hl 1 rfl) ?_
    refine lv_i2l (v := (n.toInt64)) hx hb dX8_meet_13 rfl ?_
    refine lv_lconst (v := 1) hx hb dX8_meet_14 (by decide) ?_
    refine lv_ldc2 (v := 100) hx hb hown (hts (.constantLong RX8 160 (100)) (List.mem_of_getElem? (i := 3) rfl)) dX8_meet_15 ?_
    have k_3 := (g_X8_in l D cI cB cQ s.heap.size (n.toInt64) 1 100)
    refine wc_i (WC := []) (WR := [(h, .inr (7, [.ref sl, .int na, .ref zs, .ref ln, .ref ir, .ref tk, .int su, .int le, .ref tb, .int fu, .int ap, .int pp, .ref tr, .int tc, .ref fz, .int nm])), (sl, .inl (cI, 1653, .inl sf))]) (va_runS (As := [.long (n.toInt64), .long 1, .long 100]) (rest := []) ⟨hx, hb, hml, hown, hts⟩ k_3 (va_cwS 3 hts gX8_meet_X8_in rfl rfl rfl (by decide +kernel) ⟨Nat.le_of_ble_eq_true rfl, Nat.le_of_ble_eq_true rfl⟩) (wp_S hP hK hD hN [] (by decide) rfl) rfl rfl hl.1 rfl (lv_room (Nat.le_of_ble_eq_true rfl)) dX8_meet_18 ⟨Nat.le_of_ble_eq_true rfl, Nat.le_of_ble_eq_true rfl⟩) hP hD hS hA [] [0, 1] rfl rfl (by decide) (by decide) (fun r_3 u_3 H locs hw_3 hP hD hS => ?_)
    clear k_3
    have hP : va_P D kl [(h, .inr (7, [.ref sl, .int na, .ref zs, .ref ln, .ref ir, .ref tk, .int su, .int le, .ref tb, .int fu, .int ap, .int pp, .ref tr, .int tc, .ref fz, .int nm])), (sl, .inl (cI, 1653, .inl sf))] H := hP
    have hD : va_D A [(h, .inr (7, [.ref sl, .int na, .ref zs, .ref ln, .ref ir, .ref tk, .int su, .int le, .ref tb, .int fu, .int ap, .int pp, .ref tr, .int tc, .ref fz, .int nm])), (sl, .inl (cI, 1653, .inl sf))] := hD
    have c3_0 := hw_3
    rcases c3_0 with ⟨e_3, f_3⟩ | ⟨e_3, f_3⟩
    · subst e_3
      have f_3 : (1 : Int) ≤ n.toInt ∧ n.toInt ≤ (100 : Int) := by
        have h8 := f_3
        try simp only [zl_of] at h8
        exact h8
      refine lv_if_eq (tgt := 34) hx hb dX8_meet_21 (by decide) (fun c9 => absurd c9 (by decide)) (fun _ => ?_)
      refine lv_iload_n hx hb dX8_meet_24 rfl (lv_at hl 2 rfl) ?_
      refine lv_i2l (v := (k.toInt64)) hx hb dX8_meet_25 rfl ?_
      refine lv_lconst (v := 0) hx hb dX8_meet_26 (by decide) ?_
      refine lv_lconst (v := 1) hx hb dX8_meet_27 (by decide) ?_
      have k_4 := (g_X8_in l D cI cB cQ H.size (k.toInt64) 0 1)
      refine wc_i (WC := []) (WR := [(h, .inr (7, [.ref sl, .int na, .ref zs, .ref ln, .ref ir, .ref tk, .int su, .int le, .ref tb, .int fu, .int ap, .int pp, .ref tr, .int tc, .ref fz, .int nm])), (sl, .inl (cI, 1653, .inl sf))]) (va_runS (As := [.long (k.toInt64), .long 0, .long 1]) (rest := []) ⟨hx, hb, hml, hown, hts⟩ k_4 (va_cwS 3 hts gX8_meet_X8_in rfl rfl rfl (by decide +kernel) ⟨Nat.le_of_ble_eq_true rfl, Nat.le_of_ble_eq_true rfl⟩) (wp_S hP hK hD hN [] (by decide) rfl) rfl rfl hl.1 rfl (lv_room (Nat.le_of_ble_eq_true rfl)) dX8_meet_28 ⟨Nat.le_of_ble_eq_true rfl, Nat.le_of_ble_eq_true rfl⟩) hP hD hS hA [] [0, 1] rfl rfl (by decide) (by decide) (fun r_4 u_4 H locs hw_4 hP hD hS => ?_)
      clear k_4
      have hP : va_P D kl [(h, .inr (7, [.ref sl, .int na, .ref zs, .ref ln, .ref ir, .ref tk, .int su, .int le, .ref tb, .int fu, .int ap, .int pp, .ref tr, .int tc, .ref fz, .int nm])), (sl, .inl (cI, 1653, .inl sf))] H := hP
      have hD : va_D A [(h, .inr (7, [.ref sl, .int na, .ref zs, .ref ln, .ref ir, .ref tk, .int su, .int le, .ref tb, .int fu, .int ap, .int pp, .ref tr, .int tc, .ref fz, .int nm])), (sl, .inl (cI, 1653, .inl sf))] := hD
      have c4_0 := hw_4
      rcases c4_0 with ⟨e_4, f_4⟩ | ⟨e_4, f_4⟩
      · subst e_4
        have f_4 : (0 : Int) ≤ k.toInt ∧ k.toInt ≤ (1 : Int) := by
          have h8 := f_4
          try simp only [zl_of] at h8
          exact h8
        refine lv_if_ne (tgt := 37) hx hb dX8_meet_31 (by decide) (fun _ => ?_) (fun c9 => absurd c9 (by decide))
        refine lv_aload_n hx hb dX8_meet_37 rfl (lv_at hl 0 rfl) ?_
        refine lv_iconst (v := 0) hx hb dX8_meet_38 (by decide) ?_
        refine lv_bipush (v := 27) hx hb dX8_meet_39 (by decide) ?_
        have k_5 := (f_X8_copies l D cI cB cQ H.size h sl zs ln ir tk tb tr fz na su le fu ap pp tc nm 0 27 sf v0 hsi ⟨by decide, by decide⟩ ⟨by decide, by decide⟩ (by have hk0 : (0 : Int32).toInt = 0 := (by decide); have hk1 : (27 : Int32).toInt = 27 := (by decide); omega))
        refine wc_v (WC := [(h, .inr (7, [.ref sl, .int na, .ref zs, .ref ln, .ref ir, .ref tk, .int su, .int le, .ref tb, .int fu, .int ap, .int pp, .ref tr, .int tc, .ref fz, .int nm])), (sl, .inl (cI, 1653, .inl sf))]) (WR := []) (va_runV (As := [.int 0, .int 27]) (rest := []) ⟨hx, hb, hml, hown, hts⟩ k_5 (cwV 2 hts gX8_meet_X8_copies rfl rfl rfl (by decide +kernel) ⟨Nat.le_of_ble_eq_true rfl, Nat.le_of_ble_eq_true rfl⟩) (wp_V hP hK hD hN [0, 1] (by decide) rfl (ci := 7) rfl rfl) rfl rfl hl.1 rfl (lv_room (Nat.le_of_ble_eq_true rfl)) dX8_meet_41 ⟨Nat.le_of_ble_eq_true rfl, Nat.le_of_ble_eq_true rfl⟩) hP hD hS hA [0, 1] [] rfl rfl (by decide) (by decide) (fun u_5 H locs hw_5 hP hD hS => ?_)
        clear k_5
        have hP : va_P D kl [(h, .inr (7, [.ref sl, .int na, .ref zs, .ref ln, .ref ir, .ref tk, .int su, .int le, .ref tb, .int fu, .int ap, .int pp, .ref tr, .int tc, .ref fz, .int nm])), (sl, .inl (cI, 1653, .inl u_5))] H := hP
        have hD : va_D A [(h, .inr (7, [.ref sl, .int na, .ref zs, .ref ln, .ref ir, .ref tk, .int su, .int le, .ref tb, .int fu, .int ap, .int pp, .ref tr, .int tc, .ref fz, .int nm])), (sl, .inl (cI, 1653, .inl u_5))] := hD
        obtain ⟨c5_0, c5_1, c5_2⟩ := hw_5
        have c5_0 : ∀ q : Nat, q < 57 → u_5 (57 * (27 : Int).toNat + q) = sf (57 * (0 : Int).toNat + q) := c5_0
        have c5_1 : FRM ((57 * (27 : Int))) ((57 * (27 : Int) + 57)) sf u_5 := c5_1
        have c5_2 : SI u_5 v0 := c5_2
        have hf_5 : FRM (1539) (1596) sf u_5 := FRM.trans FRM.refl (FRM.sub c5_1 (by omega) (by omega))
        refine lv_iconst (v := 0) hx hb dX8_meet_44 (by decide) ?_
        refine lv_istore_n (lv' := [(3, .int 0), (0, .ref h), (1, .int n), (2, .int k)]) hx hb dX8_meet_45 rfl hl (by decide) rfl (fun ls hl => ?_)
        have hL46 : ∀ (nf : Nat) (t3_c46 : Int32) (g0_c46 : Nat → Int32) (H : Heap) (locs : List Loc) (ls : Array Slot), (0 ≤ t3_c46.toInt ∧ t3_c46.toInt ≤ 100) → (SI g0_c46 v0) → (FRM (1539) (1596) sf g0_c46) → (n.toInt - t3_c46.toInt).toNat < nf → va_P D kl [(h, .inr (7, [.ref sl, .int na, .ref zs, .ref ln, .ref ir, .ref tk, .int su, .int le, .ref tb, .int fu, .int ap, .int pp, .ref tr, .int tc, .ref fz, .int nm])), (sl, .inl (cI, 1653, .inl g0_c46))] H → va_D A [(h, .inr (7, [.ref sl, .int na, .ref zs, .ref ln, .ref ir, .ref tk, .int su, .int le, .ref tb, .int fu, .int ap, .int pp, .ref tr, .int tc, .ref fz, .int nm])), (sl, .inl (cI, 1653, .inl g0_c46))] → va_S A s.heap H locs → lv_has ls 5 [(3, .int t3_c46), (0, .ref h), (1, .int n), (2, .int k)] → W p l e ({ frames := 5, cells := 0, slots := 0, locals := 122 }) s m ([.ref h, .int n, .int k] : List Value).toArray below meth c H locs 0 0 (MQ below (va_Qi (fun (r : Int32) (u : (Nat → Int32)) => (FRM (1539) (1596) sf u) ∧ (SI u v0)) (fun u t => wb D A ((fun u => [(h, .inr (7, [.ref sl, .int na, .ref zs, .ref ln, .ref ir, .ref tk, .int su, .int le, .ref tb, .int fu, .int ap, .int pp, .ref tr, .int tc, .ref fz, .int nm])), (sl, .inl (cI, 1653, .inl u))]) u) t) A) ([.ref h, .int n, .int k] : List Value).toArray s 0 0 A) (F0 m 46 ls []) := by
          intro nf
          induction nf with
          | zero =>
            intro t3_c46 g0_c46 H locs ls i_t3_c46 ha_g0_c46 hf_c46 hm
            exact absurd hm (Nat.not_lt_zero _)
          | succ nf ih46 =>
            intro t3_c46 g0_c46 H locs ls i_t3_c46 ha_g0_c46 hf_c46 hm46 hP hD hS hl
            refine lv_iload_n hx hb dX8_meet_46 rfl (lv_at hl 0 rfl) ?_
            refine lv_iload_n hx hb dX8_meet_47 rfl (lv_at hl 2 rfl) ?_
            refine lv_icmp_ge (tgt := 88) hx hb dX8_meet_48 (by decide) (fun c_6 => ?_) (fun c_6 => ?_)
            · have f_6 : n.toInt ≤ t3_c46.toInt := zi_le c_6
              refine lv_ldc (v := (-1000000)) hx hb hown (hts (.constant RX8 99 (-1000000)) (List.mem_of_getElem? (i := 5) rfl)) dX8_meet_88 ?_
              exact wr_i (v := (-1000000)) hx hb hr hlocks hS g0_c46 (by exact ⟨show FRM (1539) (1596) sf g0_c46 from hf_c46, ha_g0_c46⟩) (hP.sub [0, 1] rfl) (hD.sub [0, 1] (by decide) rfl) dX8_meet_90
            · have f_6 : ¬ n.toInt ≤ t3_c46.toInt := zi_nle c_6
              refine lv_aload_n hx hb dX8_meet_51 rfl (lv_at hl 1 rfl) ?_
              refine lv_bipush (v := 27) hx hb dX8_meet_52 (by decide) ?_
              refine lv_iconst (v := (-1)) hx hb dX8_meet_54 (by decide) ?_
              have k_7 := (f_X8_day l D cI cB cQ H.size h sl zs ln ir tk tb tr fz na su le fu ap pp tc nm 27 (-1) g0_c46 v0 ha_g0_c46 ⟨by decide, by decide⟩)
              refine wc_v (WC := [(h, .inr (7, [.ref sl, .int na, .ref zs, .ref ln, .ref ir, .ref tk, .int su, .int le, .ref tb, .int fu, .int ap, .int pp, .ref tr, .int tc, .ref fz, .int nm])), (sl, .inl (cI, 1653, .inl g0_c46))]) (WR := []) (va_runV (As := [.int 27, .int (-1)]) (rest := []) ⟨hx, hb, hml, hown, hts⟩ k_7 (cwV 2 hts gX8_meet_X8_day rfl rfl rfl (by decide +kernel) ⟨Nat.le_of_ble_eq_true rfl, Nat.le_of_ble_eq_true rfl⟩) (wp_V hP hK hD hN [0, 1] (by decide) rfl (ci := 7) rfl rfl) rfl rfl hl.1 rfl (lv_room (Nat.le_of_ble_eq_true rfl)) dX8_meet_55 ⟨Nat.le_of_ble_eq_true rfl, Nat.le_of_ble_eq_true rfl⟩) hP hD hS hA [0, 1] [] rfl rfl (by decide) (by decide) (fun u_7 H locs hw_7 hP hD hS => ?_)
              clear k_7
              have hP : va_P D kl [(h, .inr (7, [.ref sl, .int na, .ref zs, .ref ln, .ref ir, .ref tk, .int su, .int le, .ref tb, .int fu, .int ap, .int pp, .ref tr, .int tc, .ref fz, .int nm])), (sl, .inl (cI, 1653, .inl u_7))] H := hP
              have hD : va_D A [(h, .inr (7, [.ref sl, .int na, .ref zs, .ref ln, .ref ir, .ref tk, .int su, .int le, .ref tb, .int fu, .int ap, .int pp, .ref tr, .int tc, .ref fz, .int nm])), (sl, .inl (cI, 1653, .inl u_7))] := hD
              obtain ⟨c7_0, c7_1⟩ := hw_7
              have c7_0 : FRM (57 * (27 : Int) + 31) (57 * (27 : Int) + 57) g0_c46 u_7 := c7_0
              have c7_1 : SI u_7 v0 := c7_1
              have hf_7 : FRM (1539) (1596) sf u_7 := FRM.trans hf_c46 (FRM.sub c7_0 (by omega) (by omega))
              refine lv_aload_n hx hb dX8_meet_58 rfl (lv_at hl 1 rfl) ?_
              refine lv_bipush (v := 27) hx hb dX8_meet_59 (by decide) ?_
              have k_8 := (g_X8_meets l D cI cB cQ H.size h sl zs ln ir tk tb tr fz na su le fu ap pp tc nm 27 u_7 v0 c7_1 ⟨by decide, by decide⟩)
              refine wc_i (WC := [(h, .inr (7, [.ref sl, .int na, .ref zs, .ref ln, .ref ir, .ref tk, .int su, .int le, .ref tb, .int fu, .int ap, .int pp, .ref tr, .int tc, .ref fz, .int nm])), (sl, .inl (cI, 1653, .inl u_7))]) (WR := []) (va_runV (As := [.int 27]) (rest := []) ⟨hx, hb, hml, hown, hts⟩ k_8 (cwV 1 hts gX8_meet_X8_meets rfl rfl rfl (by decide +kernel) ⟨Nat.le_of_ble_eq_true rfl, Nat.le_of_ble_eq_true rfl⟩) (wp_V hP hK hD hN [0, 1] (by decide) rfl (ci := 7) rfl rfl) rfl rfl hl.1 rfl (lv_room (Nat.le_of_ble_eq_true rfl)) dX8_meet_61 ⟨Nat.le_of_ble_eq_true rfl, Nat.le_of_ble_eq_true rfl⟩) hP hD hS hA [0, 1] [] rfl rfl (by decide) (by decide) (fun r_8 u_8 H locs hw_8 hP hD hS => ?_)
              clear k_8
              have hP : va_P D kl [(h, .inr (7, [.ref sl, .int na, .ref zs, .ref ln, .ref ir, .ref tk, .int su, .int le, .ref tb, .int fu, .int ap, .int pp, .ref tr, .int tc, .ref fz, .int nm])), (sl, .inl (cI, 1653, .inl u_7))] H := hP
              have hD : va_D A [(h, .inr (7, [.ref sl, .int na, .ref zs, .ref ln, .ref ir, .ref tk, .int su, .int le, .ref tb, .int fu, .int ap, .int pp, .ref tr, .int tc, .ref fz, .int nm])), (sl, .inl (cI, 1653, .inl u_7))] := hD
              clear hw_8
              refine lv_istore (lv' := [(4, .int r_8), (3, .int t3_c46), (0, .ref h), (1, .int n), (2, .int k)]) hx hb dX8_meet_64 hl (by decide) rfl (fun ls hl => ?_)
              refine lv_iload hx hb dX8_meet_66 (lv_at hl 0 rfl) ?_
              refine lv_if_lt (tgt := 82) hx hb dX8_meet_68 (by decide) (fun c_9 => ?_) (fun c_9 => ?_)
              · have f_9 : r_8.toInt < 0 := zi_lt c_9
                obtain ⟨x_10, ex_10⟩ : ∃ y : Int32, y = t3_c46 + Int32.ofInt 1 := ⟨_, rfl⟩
                refine lv_iinc (v := x_10) (lv' := [(3, .int x_10), (4, .int r_8), (0, .ref h), (1, .int n), (2, .int k)]) hx hb dX8_meet_82 hl (k := 1) rfl ex_10.symm (by decide) rfl (fun ls hl => ?_)
                have ex_10 : x_10 = t3_c46 + 1 := ex_10
                have e_10 : x_10.toInt = t3_c46.toInt + 1 := by rw [ex_10]; exact zi_add (rfl) (by decide) (by omega) (by omega)
                clear ex_10
                refine lv_goto (tgt := 46) hx hb dX8_meet_85 (by decide) ?_
                exact ih46 x_10 u_7 _ _ _ (show 0 ≤ x_10.toInt ∧ x_10.toInt ≤ 100 from by omega) c7_1 hf_7 (by omega) (hP.sub [0, 1] rfl) (hD.sub [0, 1] (by decide) rfl) hS (lv_sub hl [0, 2, 3, 4] rfl)
              · have f_9 : ¬ r_8.toInt < 0 := zi_nlt c_9
                refine lv_iload_n hx hb dX8_meet_71 rfl (lv_at hl 4 rfl) ?_
                refine lv_if_ne (tgt := 79) hx hb dX8_meet_72 (by decide) (fun c_11 => ?_) (fun c_11 => ?_)
                · have f_11 : ¬ k.toInt = 0 := zi_ne c_11
                  refine lv_iload hx hb dX8_meet_79 (lv_at hl 0 rfl) ?_
                  exact wr_i (v := r_8) hx hb hr hlocks hS u_7 (by exact ⟨show FRM (1539) (1596) sf u_7 from hf_7, c7_1⟩) (hP.sub [0, 1] rfl) (hD.sub [0, 1] (by decide) rfl) dX8_meet_81
                · have f_11 : k.toInt = 0 := zi_eq c_11
                  refine lv_iload_n hx hb dX8_meet_75 rfl (lv_at hl 1 rfl) ?_
                  refine lv_goto (tgt := 81) hx hb dX8_meet_76 (by decide) ?_
                  exact wr_i (v := t3_c46) hx hb hr hlocks hS u_7 (by exact ⟨show FRM (1539) (1596) sf u_7 from hf_7, c7_1⟩) (hP.sub [0, 1] rfl) (hD.sub [0, 1] (by decide) rfl) dX8_meet_81
        exact hL46 (((n.toInt - (0 : Int32).toInt).toNat) + 1) 0 u_5 _ _ _ (show 0 ≤ 0 ∧ 0 ≤ 100 from by omega) c5_2 hf_5 (Nat.lt_succ_self _) (hP.sub [0, 1] rfl) (hD.sub [0, 1] (by decide) rfl) hS (lv_sub hl [0, 1, 2, 3] rfl)
      · subst e_4
        have f_4 : ¬ ((0 : Int) ≤ k.toInt ∧ k.toInt ≤ (1 : Int)) := by
          have h8 := f_4
          try simp only [zl_of] at h8
          exact h8
        refine lv_if_ne (tgt := 37) hx hb dX8_meet_31 (by decide) (fun c9 => absurd (by decide) c9) (fun _ => ?_)
        refine lv_ldc (v := (-1000001)) hx hb hown (hts (.constant RX8 48 (-1000001)) (List.mem_of_getElem? (i := 4) rfl)) dX8_meet_34 ?_
        exact wr_i (v := (-1000001)) hx hb hr hlocks hS sf (by exact ⟨show FRM (1539) (1596) sf sf from FRM.refl, hsi⟩) (hP.sub [0, 1] rfl) (hD.sub [0, 1] (by decide) rfl) dX8_meet_36
    · subst e_3
      have f_3 : ¬ ((1 : Int) ≤ n.toInt ∧ n.toInt ≤ (100 : Int)) := by
        have h8 := f_3
        try simp only [zl_of] at h8
        exact h8
      refine lv_if_eq (tgt := 34) hx hb dX8_meet_21 (by decide) (fun _ => ?_) (fun c9 => absurd (by decide) c9)
      refine lv_ldc (v := (-1000001)) hx hb hown (hts (.constant RX8 48 (-1000001)) (List.mem_of_getElem? (i := 4) rfl)) dX8_meet_34 ?_
      exact wr_i (v := (-1000001)) hx hb hr hlocks hS sf (by exact ⟨show FRM (1539) (1596) sf sf from FRM.refl, hsi⟩) (hP.sub [0, 1] rfl) (hD.sub [0, 1] (by decide) rfl) dX8_meet_36
  · have f_2 : x_1.toInt = 0 := zi_eq c_2
    refine lv_ldc (v := (-1000002)) hx hb hown (hts (.constant RX8 121 (-1000002)) (List.mem_of_getElem? (i := 2) rfl)) dX8_meet_9 ?_
    exact wr_i (v := (-1000002)) hx hb hr hlocks hS sf (by exact ⟨show FRM (1539) (1596) sf sf from FRM.refl, hsi⟩) (hP.sub [0, 1] rfl) (hD.sub [0, 1] (by decide) rfl) dX8_meet_11
set_option maxHeartbeats 4000000 in
set_option maxRecDepth 100000 in
theorem f_X8_alone (l : Launch) (D : va_G) (cI cB cQ : ClassId) (sz : Nat) (h : Nat) (sl : Nat) (zs : Nat) (ln : Nat) (ir : Nat) (tk : Nat) (tb : Nat) (tr : Nat) (fz : Nat) (na : Int32) (su : Int32) (le : Int32) (fu : Int32) (ap : Int32) (pp : Int32) (tc : Int32) (nm : Int32) (v : Int32) (k : Int32) (sf : Nat → Int32) (v0 : Int) (hsi : SI sf v0) (h_v : 0 ≤ v.toInt ∧ v.toInt ≤ 2) (h_k : 0 ≤ k.toInt ∧ k.toInt ≤ 7) : mv l yX8_alone wsX8_alone ({ frames := 1, cells := 0, slots := 0, locals := 23 }) D cI cB cQ [.ref h, .int v, .int k] sz [(h, .inr (7, [.ref sl, .int na, .ref zs, .ref ln, .ref ir, .ref tk, .int su, .int le, .ref tb, .int fu, .int ap, .int pp, .ref tr, .int tc, .ref fz, .int nm])), (sl, .inl (cI, 1653, .inl sf))] (fun (u : (Nat → Int32)) => (FRM (1539) (1596) sf u) ∧ (SI u v0)) (fun u => [(h, .inr (7, [.ref sl, .int na, .ref zs, .ref ln, .ref ir, .ref tk, .int su, .int le, .ref tb, .int fu, .int ap, .int pp, .ref tr, .int tc, .ref fz, .int nm])), (sl, .inl (cI, 1653, .inl u))]) 0 0 := by
  refine wm_v (cc := cX8_alone) (maxL := 4) (ret := none) (by decide) rfl (Nat.le_of_ble_eq_true rfl) ?_
  intro p e s m below meth c A ls hx hb hr hml hown hts hlocks hin hP hK hD hN hA hl hS
  have hown : s.vm.findClass RX8 = some m.cls := hown
  have hl : lv_has ls 4 [(0, .ref h), (1, .int v), (2, .int k)] := hl
  change W p l e ({ frames := 1, cells := 0, slots := 0, locals := 23 }) s m ([.ref h, .int v, .int k] : List Value).toArray below meth c s.heap [] 0 0 (MQ below (va_Qv (fun (u : (Nat → Int32)) => (FRM (1539) (1596) sf u) ∧ (SI u v0)) (fun u t => wb D A ((fun u => [(h, .inr (7, [.ref sl, .int na, .ref zs, .ref ln, .ref ir, .ref tk, .int su, .int le, .ref tb, .int fu, .int ap, .int pp, .ref tr, .int tc, .ref fz, .int nm])), (sl, .inl (cI, 1653, .inl u))]) u) t) A) ([.ref h, .int v, .int k] : List Value).toArray s 0 0 A) (F0 m 0 ls [])
  refine lv_aload_n hx hb dX8_alone_0 rfl (lv_at hl 0 rfl) ?_
  refine lv_iconst (v := 0) hx hb dX8_alone_1 (by decide) ?_
  refine lv_bipush (v := 27) hx hb dX8_alone_2 (by decide) ?_
  have k_1 := (f_X8_copies l D cI cB cQ s.heap.size h sl zs ln ir tk tb tr fz na su le fu ap pp tc nm 0 27 sf v0 hsi ⟨by decide, by decide⟩ ⟨by decide, by decide⟩ (by have hk0 : (0 : Int32).toInt = 0 := (by decide); have hk1 : (27 : Int32).toInt = 27 := (by decide); omega))
  refine wc_v (WC := [(h, .inr (7, [.ref sl, .int na, .ref zs, .ref ln, .ref ir, .ref tk, .int su, .int le, .ref tb, .int fu, .int ap, .int pp, .ref tr, .int tc, .ref fz, .int nm])), (sl, .inl (cI, 1653, .inl sf))]) (WR := []) (va_runV (As := [.int 0, .int 27]) (rest := []) ⟨hx, hb, hml, hown, hts⟩ k_1 (cwV 2 hts gX8_alone_X8_copies rfl rfl rfl (by decide +kernel) ⟨Nat.le_of_ble_eq_true rfl, Nat.le_of_ble_eq_true rfl⟩) (wp_V hP hK hD hN [0, 1] (by decide) rfl (ci := 7) rfl rfl) rfl rfl hl.1 rfl (lv_room (Nat.le_of_ble_eq_true rfl)) dX8_alone_4 ⟨Nat.le_of_ble_eq_true rfl, Nat.le_of_ble_eq_true rfl⟩) hP hD hS hA [0, 1] [] rfl rfl (by decide) (by decide) (fun u_1 H locs hw_1 hP hD hS => ?_)
  clear k_1
  have hP : va_P D kl [(h, .inr (7, [.ref sl, .int na, .ref zs, .ref ln, .ref ir, .ref tk, .int su, .int le, .ref tb, .int fu, .int ap, .int pp, .ref tr, .int tc, .ref fz, .int nm])), (sl, .inl (cI, 1653, .inl u_1))] H := hP
  have hD : va_D A [(h, .inr (7, [.ref sl, .int na, .ref zs, .ref ln, .ref ir, .ref tk, .int su, .int le, .ref tb, .int fu, .int ap, .int pp, .ref tr, .int tc, .ref fz, .int nm])), (sl, .inl (cI, 1653, .inl u_1))] := hD
  obtain ⟨c1_0, c1_1, c1_2⟩ := hw_1
  have c1_0 : ∀ q : Nat, q < 57 → u_1 (57 * (27 : Int).toNat + q) = sf (57 * (0 : Int).toNat + q) := c1_0
  have c1_1 : FRM ((57 * (27 : Int))) ((57 * (27 : Int) + 57)) sf u_1 := c1_1
  have c1_2 : SI u_1 v0 := c1_2
  have hf_1 : FRM (1539) (1596) sf u_1 := FRM.trans FRM.refl (FRM.sub c1_1 (by omega) (by omega))
  refine lv_aload_n hx hb dX8_alone_7 rfl (lv_at hl 0 rfl) ?_
  refine va_get (D := D) (ci := 7) (v := .ref sl) (C := RX8) (T := TX8) (N := 16) hx hb hts (fun _ h => List.mem_cons_of_mem _ (List.mem_append_right _ h)) hown hK hP 0 rfl rfl 0 (by decide) (hts (.fieldLink RX8 7 "WinterWalkModel" "slot" "[I") (List.mem_of_getElem? (i := 1) rfl)) (fun _ h9 => h9) rfl dX8_alone_8 ?_
  refine lv_sipush (v := 1587) hx hb dX8_alone_11 (by decide) ?_
  refine lv_iload_n hx hb dX8_alone_14 rfl (lv_at hl 1 rfl) ?_
  refine lv_iadd hx hb dX8_alone_15 ?_
  refine lv_topi (fun x_2 ex_2 => ?_)
  have e_2 : x_2.toInt = 1587 + v.toInt := by rw [ex_2]; exact zi_add (by decide) (rfl) (by omega) (by omega)
  clear ex_2
  refine lv_iload_n hx hb dX8_alone_16 rfl (lv_at hl 2 rfl) ?_
  refine va_iast hx hb hK hP hD hS 1 0 rfl rfl (zi_in (by omega) (by omega)) dX8_alone_17 (fun H locs hP hD hS => ?_)
  have hP : va_P D kl [(h, .inr (7, [.ref sl, .int na, .ref zs, .ref ln, .ref ir, .ref tk, .int su, .int le, .ref tb, .int fu, .int ap, .int pp, .ref tr, .int tc, .ref fz, .int nm])), (sl, .inl (cI, 1653, .inl (upd u_1 (x_2 : Int32).toNatClampNeg k)))] H := hP
  have hD : va_D A [(h, .inr (7, [.ref sl, .int na, .ref zs, .ref ln, .ref ir, .ref tk, .int su, .int le, .ref tb, .int fu, .int ap, .int pp, .ref tr, .int tc, .ref fz, .int nm])), (sl, .inl (cI, 1653, .inl (upd u_1 (x_2 : Int32).toNatClampNeg k)))] := hD
  have ha_3 : SI (upd u_1 (x_2 : Int32).toNatClampNeg k) v0 := si_up c1_2 (by omega) (fun s0 a0 b0 e0 => by omega) (fun s0 a0 b0 e0 => by omega) (fun s0 k0 a0 b0 c0 d0 e0 => by omega) (by omega)
  have hf_4 : FRM (1539) (1596) sf (upd u_1 (x_2 : Int32).toNatClampNeg k) := FRM.up hf_1 (by omega)
  refine lv_aload_n hx hb dX8_alone_18 rfl (lv_at hl 0 rfl) ?_
  refine va_get (D := D) (ci := 7) (v := .ref sl) (C := RX8) (T := TX8) (N := 16) hx hb hts (fun _ h => List.mem_cons_of_mem _ (List.mem_append_right _ h)) hown hK hP 0 rfl rfl 0 (by decide) (hts (.fieldLink RX8 7 "WinterWalkModel" "slot" "[I") (List.mem_of_getElem? (i := 1) rfl)) (fun _ h9 => h9) rfl dX8_alone_19 ?_
  refine lv_sipush (v := 1590) hx hb dX8_alone_22 (by decide) ?_
  refine lv_iload_n hx hb dX8_alone_25 rfl (lv_at hl 1 rfl) ?_
  refine lv_iadd hx hb dX8_alone_26 ?_
  refine lv_topi (fun x_5 ex_5 => ?_)
  have e_5 : x_5.toInt = 1590 + v.toInt := by rw [ex_5]; exact zi_add (by decide) (rfl) (by omega) (by omega)
  clear ex_5
  refine lv_ldc (v := (-1000000)) hx hb hown (hts (.constant RX8 99 (-1000000)) (List.mem_of_getElem? (i := 2) rfl)) dX8_alone_27 ?_
  refine va_iast hx hb hK hP hD hS 1 0 rfl rfl (zi_in (by omega) (by omega)) dX8_alone_29 (fun H locs hP hD hS => ?_)
  have hP : va_P D kl [(h, .inr (7, [.ref sl, .int na, .ref zs, .ref ln, .ref ir, .ref tk, .int su, .int le, .ref tb, .int fu, .int ap, .int pp, .ref tr, .int tc, .ref fz, .int nm])), (sl, .inl (cI, 1653, .inl (upd (upd u_1 (x_2 : Int32).toNatClampNeg k) (x_5 : Int32).toNatClampNeg (-1000000))))] H := hP
  have hD : va_D A [(h, .inr (7, [.ref sl, .int na, .ref zs, .ref ln, .ref ir, .ref tk, .int su, .int le, .ref tb, .int fu, .int ap, .int pp, .ref tr, .int tc, .ref fz, .int nm])), (sl, .inl (cI, 1653, .inl (upd (upd u_1 (x_2 : Int32).toNatClampNeg k) (x_5 : Int32).toNatClampNeg (-1000000))))] := hD
  have ha_6 : SI (upd (upd u_1 (x_2 : Int32).toNatClampNeg k) (x_5 : Int32).toNatClampNeg (-1000000)) v0 := si_up ha_3 (by omega) (fun s0 a0 b0 e0 => by first | decide | omega) (fun s0 a0 b0 e0 => by first | decide | omega) (fun s0 k0 a0 b0 c0 d0 e0 => by first | decide | omega) (by omega)
  have hf_7 : FRM (1539) (1596) sf (upd (upd u_1 (x_2 : Int32).toNatClampNeg k) (x_5 : Int32).toNatClampNeg (-1000000)) := FRM.up hf_4 (by omega)
  refine lv_iconst (v := 0) hx hb dX8_alone_30 (by decide) ?_
  refine lv_istore_n (lv' := [(3, .int 0), (0, .ref h), (1, .int v), (2, .int k)]) hx hb dX8_alone_31 rfl hl (by decide) rfl (fun ls hl => ?_)
  have hL32 : ∀ (nf : Nat) (t3_c32 : Int32) (g0_c32 : Nat → Int32) (H : Heap) (locs : List Loc) (ls : Array Slot), (0 ≤ t3_c32.toInt ∧ t3_c32.toInt ≤ 8) → (SI g0_c32 v0) → (FRM (1539) (1596) sf g0_c32) → (8 - t3_c32.toInt).toNat < nf → va_P D kl [(h, .inr (7, [.ref sl, .int na, .ref zs, .ref ln, .ref ir, .ref tk, .int su, .int le, .ref tb, .int fu, .int ap, .int pp, .ref tr, .int tc, .ref fz, .int nm])), (sl, .inl (cI, 1653, .inl g0_c32))] H → va_D A [(h, .inr (7, [.ref sl, .int na, .ref zs, .ref ln, .ref ir, .ref tk, .int su, .int le, .ref tb, .int fu, .int ap, .int pp, .ref tr, .int tc, .ref fz, .int nm])), (sl, .inl (cI, 1653, .inl g0_c32))] → va_S A s.heap H locs → lv_has ls 4 [(3, .int t3_c32), (0, .ref h), (1, .int v), (2, .int k)] → W p l e ({ frames := 1, cells := 0, slots := 0, locals := 23 }) s m ([.ref h, .int v, .int k] : List Value).toArray below meth c H locs 0 0 (MQ below (va_Qv (fun (u : (Nat → Int32)) => (FRM (1539) (1596) sf u) ∧ (SI u v0)) (fun u t => wb D A ((fun u => [(h, .inr (7, [.ref sl, .int na, .ref zs, .ref ln, .ref ir, .ref tk, .int su, .int le, .ref tb, .int fu, .int ap, .int pp, .ref tr, .int tc, .ref fz, .int nm])), (sl, .inl (cI, 1653, .inl u))]) u) t) A) ([.ref h, .int v, .int k] : List Value).toArray s 0 0 A) (F0 m 32 ls []) := by
    intro nf
    induction nf with
    | zero =>
      intro t3_c32 g0_c32 H locs ls i_t3_c32 ha_g0_c32 hf_c32 hm
      exact absurd hm (Nat.not_lt_zero _)
    | succ nf ih32 =>
      intro t3_c32 g0_c32 H locs ls i_t3_c32 ha_g0_c32 hf_c32 hm32 hP hD hS hl
      refine lv_iload_n hx hb dX8_alone_32 rfl (lv_at hl 0 rfl) ?_
      refine lv_bipush (v := 8) hx hb dX8_alone_33 (by decide) ?_
      refine lv_icmp_ge (tgt := 55) hx hb dX8_alone_35 (by decide) (fun c_8 => ?_) (fun c_8 => ?_)
      · have f_8 : 8 ≤ t3_c32.toInt := zi_le c_8
        exact wr_v hx hb hr hlocks hS g0_c32 (by exact ⟨show FRM (1539) (1596) sf g0_c32 from hf_c32, ha_g0_c32⟩) (hP.sub [0, 1] rfl) (hD.sub [0, 1] (by decide) rfl) dX8_alone_55
      · have f_8 : ¬ 8 ≤ t3_c32.toInt := zi_nle c_8
        refine lv_aload_n hx hb dX8_alone_38 rfl (lv_at hl 1 rfl) ?_
        refine va_get (D := D) (ci := 7) (v := .ref sl) (C := RX8) (T := TX8) (N := 16) hx hb hts (fun _ h => List.mem_cons_of_mem _ (List.mem_append_right _ h)) hown hK hP 0 rfl rfl 0 (by decide) (hts (.fieldLink RX8 7 "WinterWalkModel" "slot" "[I") (List.mem_of_getElem? (i := 1) rfl)) (fun _ h9 => h9) rfl dX8_alone_39 ?_
        refine lv_sipush (v := 1571) hx hb dX8_alone_42 (by decide) ?_
        refine lv_iload_n hx hb dX8_alone_45 rfl (lv_at hl 0 rfl) ?_
        refine lv_iadd hx hb dX8_alone_46 ?_
        refine lv_topi (fun x_9 ex_9 => ?_)
        have e_9 : x_9.toInt = 1571 + t3_c32.toInt := by rw [ex_9]; exact zi_add (by decide) (rfl) (by omega) (by omega)
        clear ex_9
        refine lv_iconst (v := 0) hx hb dX8_alone_47 (by decide) ?_
        refine va_iast hx hb hK hP hD hS 1 0 rfl rfl (zi_in (by omega) (by omega)) dX8_alone_48 (fun H locs hP hD hS => ?_)
        have hP : va_P D kl [(h, .inr (7, [.ref sl, .int na, .ref zs, .ref ln, .ref ir, .ref tk, .int su, .int le, .ref tb, .int fu, .int ap, .int pp, .ref tr, .int tc, .ref fz, .int nm])), (sl, .inl (cI, 1653, .inl (upd g0_c32 (x_9 : Int32).toNatClampNeg 0)))] H := hP
        have hD : va_D A [(h, .inr (7, [.ref sl, .int na, .ref zs, .ref ln, .ref ir, .ref tk, .int su, .int le, .ref tb, .int fu, .int ap, .int pp, .ref tr, .int tc, .ref fz, .int nm])), (sl, .inl (cI, 1653, .inl (upd g0_c32 (x_9 : Int32).toNatClampNeg 0)))] := hD
        have ha_10 : SI (upd g0_c32 (x_9 : Int32).toNatClampNeg 0) v0 := si_up ha_g0_c32 (by omega) (fun s0 a0 b0 e0 => by first | decide | omega) (fun s0 a0 b0 e0 => by first | decide | omega) (fun s0 k0 a0 b0 c0 d0 e0 => by first | decide | omega) (by omega)
        have hf_11 : FRM (1539) (1596) sf (upd g0_c32 (x_9 : Int32).toNatClampNeg 0) := FRM.up hf_c32 (by omega)
        obtain ⟨x_12, ex_12⟩ : ∃ y : Int32, y = t3_c32 + Int32.ofInt 1 := ⟨_, rfl⟩
        refine lv_iinc (v := x_12) (lv' := [(3, .int x_12), (0, .ref h), (1, .int v), (2, .int k)]) hx hb dX8_alone_49 hl (k := 0) rfl ex_12.symm (by decide) rfl (fun ls hl => ?_)
        have ex_12 : x_12 = t3_c32 + 1 := ex_12
        have e_12 : x_12.toInt = t3_c32.toInt + 1 := by rw [ex_12]; exact zi_add (rfl) (by decide) (by omega) (by omega)
        clear ex_12
        refine lv_goto (tgt := 32) hx hb dX8_alone_52 (by decide) ?_
        exact ih32 x_12 (upd g0_c32 (x_9 : Int32).toNatClampNeg 0) _ _ _ (show 0 ≤ x_12.toInt ∧ x_12.toInt ≤ 8 from by omega) ha_10 hf_11 (by omega) (hP.sub [0, 1] rfl) (hD.sub [0, 1] (by decide) rfl) hS (lv_sub hl [0, 1, 2, 3] rfl)
  exact hL32 (((8 - (0 : Int32).toInt).toNat) + 1) 0 (upd (upd u_1 (x_2 : Int32).toNatClampNeg k) (x_5 : Int32).toNatClampNeg (-1000000)) _ _ _ (show 0 ≤ 0 ∧ 0 ≤ 8 from by omega) ha_6 hf_7 (Nat.lt_succ_self _) (hP.sub [0, 1] rfl) (hD.sub [0, 1] (by decide) rfl) hS (lv_sub hl [0, 1, 2, 3] rfl)
set_option maxHeartbeats 4000000 in
set_option maxRecDepth 100000 in
theorem f_X8_year (l : Launch) (D : va_G) (cI cB cQ : ClassId) (sz : Nat) (h : Nat) (sl : Nat) (zs : Nat) (ln : Nat) (ir : Nat) (tk : Nat) (tb : Nat) (tr : Nat) (fz : Nat) (na : Int32) (su : Int32) (le : Int32) (fu : Int32) (ap : Int32) (pp : Int32) (tc : Int32) (nm : Int32) (n : Int32) (k : Int32) (b : Int32) (sf : Nat → Int32) (v0 : Int) (hsi : SI sf v0) : mi l yX8_year wsX8_year ({ frames := 5, cells := 0, slots := 0, locals := 122 }) D cI cB cQ [.ref h, .int n, .int k, .int b] sz [(h, .inr (7, [.ref sl, .int na, .ref zs, .ref ln, .ref ir, .ref tk, .int su, .int le, .ref tb, .int fu, .int ap, .int pp, .ref tr, .int tc, .ref fz, .int nm])), (sl, .inl (cI, 1653, .inl sf))] (fun (r : Int32) (u : (Nat → Int32)) => (FRM (1539) (1596) sf u) ∧ (SI u v0)) (fun u => [(h, .inr (7, [.ref sl, .int na, .ref zs, .ref ln, .ref ir, .ref tk, .int su, .int le, .ref tb, .int fu, .int ap, .int pp, .ref tr, .int tc, .ref fz, .int nm])), (sl, .inl (cI, 1653, .inl u))]) 0 0 := by
  refine wm_i (cc := cX8_year) (maxL := 8) (ret := (some .int)) (by decide) rfl (Nat.le_of_ble_eq_true rfl) ?_
  intro p e s m below meth c A ls hx hb hr hml hown hts hlocks hin hP hK hD hN hA hl hS
  have hown : s.vm.findClass RX8 = some m.cls := hown
  have hl : lv_has ls 8 [(0, .ref h), (1, .int n), (2, .int k), (3, .int b)] := hl
  change W p l e ({ frames := 5, cells := 0, slots := 0, locals := 122 }) s m ([.ref h, .int n, .int k, .int b] : List Value).toArray below meth c s.heap [] 0 0 (MQ below (va_Qi (fun (r : Int32) (u : (Nat → Int32)) => (FRM (1539) (1596) sf u) ∧ (SI u v0)) (fun u t => wb D A ((fun u => [(h, .inr (7, [.ref sl, .int na, .ref zs, .ref ln, .ref ir, .ref tk, .int su, .int le, .ref tb, .int fu, .int ap, .int pp, .ref tr, .int tc, .ref fz, .int nm])), (sl, .inl (cI, 1653, .inl u))]) u) t) A) ([.ref h, .int n, .int k, .int b] : List Value).toArray s 0 0 A) (F0 m 0 ls [])
  refine lv_aload_n hx hb dX8_year_0 rfl (lv_at hl 0 rfl) ?_
  refine va_get (D := D) (ci := 7) (v := .ref sl) (C := RX8) (T := TX8) (N := 16) hx hb hts (fun _ h => List.mem_cons_of_mem _ (List.mem_append_right _ h)) hown hK hP 0 rfl rfl 0 (by decide) (hts (.fieldLink RX8 7 "WinterWalkModel" "slot" "[I") (List.mem_of_getElem? (i := 1) rfl)) (fun _ h9 => h9) rfl dX8_year_1 ?_
  refine lv_iconst (v := 1) hx hb dX8_year_4 (by decide) ?_
  refine va_iald hx hb hK hP 1 0 rfl rfl (zi_in (by decide) (by decide)) dX8_year_5 ?_
  refine lv_topi (fun x_1 ex_1 => ?_)
  have f_1 : 0 ≤ x_1.toInt ∧ x_1.toInt ≤ 8 := by rw [ex_1]; exact si_v hsi (s := 0) (by decide) (by omega)
  have g_1 : x_1.toInt = v0 := by rw [ex_1]; exact hsi.2
  refine lv_if_ne (tgt := 12) hx hb dX8_year_6 (by decide) (fun c_2 => ?_) (fun c_2 => ?_)
  · have f_2 : ¬ x_1.toInt = 0 := zi_ne c_2
    refine lv_iload_n hx hb dX8_year_12 rfl (lv_at hl 1 rfl) ?_
    refine lv_i2l (v := (n.toInt64)) hx hb dX8_year_13 rfl ?_
    refine lv_lconst (v := 0) hx hb dX8_year_14 (by decide) ?_
    refine lv_ldc2 (v := 100) hx hb hown (hts (.constantLong RX8 160 (100)) (List.mem_of_getElem? (i := 3) rfl)) dX8_year_15 ?_
    have k_3 := (g_X8_in l D cI cB cQ s.heap.size (n.toInt64) 0 100)
    refine wc_i (WC := []) (WR := [(h, .inr (7, [.ref sl, .int na, .ref zs, .ref ln, .ref ir, .ref tk, .int su, .int le, .ref tb, .int fu, .int ap, .int pp, .ref tr, .int tc, .ref fz, .int nm])), (sl, .inl (cI, 1653, .inl sf))]) (va_runS (As := [.long (n.toInt64), .long 0, .long 100]) (rest := []) ⟨hx, hb, hml, hown, hts⟩ k_3 (va_cwS 3 hts gX8_year_X8_in rfl rfl rfl (by decide +kernel) ⟨Nat.le_of_ble_eq_true rfl, Nat.le_of_ble_eq_true rfl⟩) (wp_S hP hK hD hN [] (by decide) rfl) rfl rfl hl.1 rfl (lv_room (Nat.le_of_ble_eq_true rfl)) dX8_year_18 ⟨Nat.le_of_ble_eq_true rfl, Nat.le_of_ble_eq_true rfl⟩) hP hD hS hA [] [0, 1] rfl rfl (by decide) (by decide) (fun r_3 u_3 H locs hw_3 hP hD hS => ?_)
    clear k_3
    have hP : va_P D kl [(h, .inr (7, [.ref sl, .int na, .ref zs, .ref ln, .ref ir, .ref tk, .int su, .int le, .ref tb, .int fu, .int ap, .int pp, .ref tr, .int tc, .ref fz, .int nm])), (sl, .inl (cI, 1653, .inl sf))] H := hP
    have hD : va_D A [(h, .inr (7, [.ref sl, .int na, .ref zs, .ref ln, .ref ir, .ref tk, .int su, .int le, .ref tb, .int fu, .int ap, .int pp, .ref tr, .int tc, .ref fz, .int nm])), (sl, .inl (cI, 1653, .inl sf))] := hD
    have c3_0 := hw_3
    rcases c3_0 with ⟨e_3, f_3⟩ | ⟨e_3, f_3⟩
    · subst e_3
      have f_3 : (0 : Int) ≤ n.toInt ∧ n.toInt ≤ (100 : Int) := by
        have h8 := f_3
        try simp only [zl_of] at h8
        exact h8
      refine lv_if_eq (tgt := 46) hx hb dX8_year_21 (by decide) (fun c9 => absurd c9 (by decide)) (fun _ => ?_)
      refine lv_iload_n hx hb dX8_year_24 rfl (lv_at hl 2 rfl) ?_
      refine lv_i2l (v := (k.toInt64)) hx hb dX8_year_25 rfl ?_
      refine lv_lconst (v := 1) hx hb dX8_year_26 (by decide) ?_
      refine lv_ldc2 (v := 999999) hx hb hown (hts (.constantLong RX8 199 (999999)) (List.mem_of_getElem? (i := 4) rfl)) dX8_year_27 ?_
      have k_4 := (g_X8_in l D cI cB cQ H.size (k.toInt64) 1 999999)
      refine wc_i (WC := []) (WR := [(h, .inr (7, [.ref sl, .int na, .ref zs, .ref ln, .ref ir, .ref tk, .int su, .int le, .ref tb, .int fu, .int ap, .int pp, .ref tr, .int tc, .ref fz, .int nm])), (sl, .inl (cI, 1653, .inl sf))]) (va_runS (As := [.long (k.toInt64), .long 1, .long 999999]) (rest := []) ⟨hx, hb, hml, hown, hts⟩ k_4 (va_cwS 3 hts gX8_year_X8_in rfl rfl rfl (by decide +kernel) ⟨Nat.le_of_ble_eq_true rfl, Nat.le_of_ble_eq_true rfl⟩) (wp_S hP hK hD hN [] (by decide) rfl) rfl rfl hl.1 rfl (lv_room (Nat.le_of_ble_eq_true rfl)) dX8_year_30 ⟨Nat.le_of_ble_eq_true rfl, Nat.le_of_ble_eq_true rfl⟩) hP hD hS hA [] [0, 1] rfl rfl (by decide) (by decide) (fun r_4 u_4 H locs hw_4 hP hD hS => ?_)
      clear k_4
      have hP : va_P D kl [(h, .inr (7, [.ref sl, .int na, .ref zs, .ref ln, .ref ir, .ref tk, .int su, .int le, .ref tb, .int fu, .int ap, .int pp, .ref tr, .int tc, .ref fz, .int nm])), (sl, .inl (cI, 1653, .inl sf))] H := hP
      have hD : va_D A [(h, .inr (7, [.ref sl, .int na, .ref zs, .ref ln, .ref ir, .ref tk, .int su, .int le, .ref tb, .int fu, .int ap, .int pp, .ref tr, .int tc, .ref fz, .int nm])), (sl, .inl (cI, 1653, .inl sf))] := hD
      have c4_0 := hw_4
      rcases c4_0 with ⟨e_4, f_4⟩ | ⟨e_4, f_4⟩
      · subst e_4
        have f_4 : (1 : Int) ≤ k.toInt ∧ k.toInt ≤ (999999 : Int) := by
          have h8 := f_4
          try simp only [zl_of] at h8
          exact h8
        refine lv_if_eq (tgt := 46) hx hb dX8_year_33 (by decide) (fun c9 => absurd c9 (by decide)) (fun _ => ?_)
        refine lv_iload_n hx hb dX8_year_36 rfl (lv_at hl 3 rfl) ?_
        refine lv_i2l (v := (b.toInt64)) hx hb dX8_year_37 rfl ?_
        refine lv_lconst (v := 0) hx hb dX8_year_38 (by decide) ?_
        refine lv_lconst (v := 1) hx hb dX8_year_39 (by decide) ?_
        have k_5 := (g_X8_in l D cI cB cQ H.size (b.toInt64) 0 1)
        refine wc_i (WC := []) (WR := [(h, .inr (7, [.ref sl, .int na, .ref zs, .ref ln, .ref ir, .ref tk, .int su, .int le, .ref tb, .int fu, .int ap, .int pp, .ref tr, .int tc, .ref fz, .int nm])), (sl, .inl (cI, 1653, .inl sf))]) (va_runS (As := [.long (b.toInt64), .long 0, .long 1]) (rest := []) ⟨hx, hb, hml, hown, hts⟩ k_5 (va_cwS 3 hts gX8_year_X8_in rfl rfl rfl (by decide +kernel) ⟨Nat.le_of_ble_eq_true rfl, Nat.le_of_ble_eq_true rfl⟩) (wp_S hP hK hD hN [] (by decide) rfl) rfl rfl hl.1 rfl (lv_room (Nat.le_of_ble_eq_true rfl)) dX8_year_40 ⟨Nat.le_of_ble_eq_true rfl, Nat.le_of_ble_eq_true rfl⟩) hP hD hS hA [] [0, 1] rfl rfl (by decide) (by decide) (fun r_5 u_5 H locs hw_5 hP hD hS => ?_)
        clear k_5
        have hP : va_P D kl [(h, .inr (7, [.ref sl, .int na, .ref zs, .ref ln, .ref ir, .ref tk, .int su, .int le, .ref tb, .int fu, .int ap, .int pp, .ref tr, .int tc, .ref fz, .int nm])), (sl, .inl (cI, 1653, .inl sf))] H := hP
        have hD : va_D A [(h, .inr (7, [.ref sl, .int na, .ref zs, .ref ln, .ref ir, .ref tk, .int su, .int le, .ref tb, .int fu, .int ap, .int pp, .ref tr, .int tc, .ref fz, .int nm])), (sl, .inl (cI, 1653, .inl sf))] := hD
        have c5_0 := hw_5
        rcases c5_0 with ⟨e_5, f_5⟩ | ⟨e_5, f_5⟩
        · subst e_5
          have f_5 : (0 : Int) ≤ b.toInt ∧ b.toInt ≤ (1 : Int) := by
            have h8 := f_5
            try simp only [zl_of] at h8
            exact h8
          refine lv_if_ne (tgt := 49) hx hb dX8_year_43 (by decide) (fun _ => ?_) (fun c9 => absurd c9 (by decide))
          refine lv_aload_n hx hb dX8_year_49 rfl (lv_at hl 0 rfl) ?_
          refine lv_iconst (v := 0) hx hb dX8_year_50 (by decide) ?_
          refine lv_bipush (v := 27) hx hb dX8_year_51 (by decide) ?_
          have k_6 := (f_X8_copies l D cI cB cQ H.size h sl zs ln ir tk tb tr fz na su le fu ap pp tc nm 0 27 sf v0 hsi ⟨by decide, by decide⟩ ⟨by decide, by decide⟩ (by have hk0 : (0 : Int32).toInt = 0 := (by decide); have hk1 : (27 : Int32).toInt = 27 := (by decide); omega))
          refine wc_v (WC := [(h, .inr (7, [.ref sl, .int na, .ref zs, .ref ln, .ref ir, .ref tk, .int su, .int le, .ref tb, .int fu, .int ap, .int pp, .ref tr, .int tc, .ref fz, .int nm])), (sl, .inl (cI, 1653, .inl sf))]) (WR := []) (va_runV (As := [.int 0, .int 27]) (rest := []) ⟨hx, hb, hml, hown, hts⟩ k_6 (cwV 2 hts gX8_year_X8_copies rfl rfl rfl (by decide +kernel) ⟨Nat.le_of_ble_eq_true rfl, Nat.le_of_ble_eq_true rfl⟩) (wp_V hP hK hD hN [0, 1] (by decide) rfl (ci := 7) rfl rfl) rfl rfl hl.1 rfl (lv_room (Nat.le_of_ble_eq_true rfl)) dX8_year_53 ⟨Nat.le_of_ble_eq_true rfl, Nat.le_of_ble_eq_true rfl⟩) hP hD hS hA [0, 1] [] rfl rfl (by decide) (by decide) (fun u_6 H locs hw_6 hP hD hS => ?_)
          clear k_6
          have hP : va_P D kl [(h, .inr (7, [.ref sl, .int na, .ref zs, .ref ln, .ref ir, .ref tk, .int su, .int le, .ref tb, .int fu, .int ap, .int pp, .ref tr, .int tc, .ref fz, .int nm])), (sl, .inl (cI, 1653, .inl u_6))] H := hP
          have hD : va_D A [(h, .inr (7, [.ref sl, .int na, .ref zs, .ref ln, .ref ir, .ref tk, .int su, .int le, .ref tb, .int fu, .int ap, .int pp, .ref tr, .int tc, .ref fz, .int nm])), (sl, .inl (cI, 1653, .inl u_6))] := hD
          obtain ⟨c6_0, c6_1, c6_2⟩ := hw_6
          have c6_0 : ∀ q : Nat, q < 57 → u_6 (57 * (27 : Int).toNat + q) = sf (57 * (0 : Int).toNat + q) := c6_0
          have c6_1 : FRM ((57 * (27 : Int))) ((57 * (27 : Int) + 57)) sf u_6 := c6_1
          have c6_2 : SI u_6 v0 := c6_2
          have hf_6 : FRM (1539) (1596) sf u_6 := FRM.trans FRM.refl (FRM.sub c6_1 (by omega) (by omega))
          refine lv_iload_n hx hb dX8_year_56 rfl (lv_at hl 2 rfl) ?_
          refine lv_i2l (v := (k.toInt64)) hx hb dX8_year_57 rfl ?_
          refine lv_lstore (lv' := [(4, .long (k.toInt64)), (0, .ref h), (1, .int n), (2, .int k), (3, .int b)]) hx hb dX8_year_58 hl (by decide) rfl (fun ls hl => ?_)
          refine lv_iconst (v := 0) hx hb dX8_year_60 (by decide) ?_
          refine lv_istore (lv' := [(6, .int 0), (4, .long (k.toInt64)), (0, .ref h), (1, .int n), (2, .int k), (3, .int b)]) hx hb dX8_year_61 hl (by decide) rfl (fun ls hl => ?_)
          have hL63 : ∀ (nf : Nat) (t6_c63 : Int32) (t4_c63 : Int64) (g0_c63 : Nat → Int32) (H : Heap) (locs : List Loc) (ls : Array Slot), (0 ≤ t6_c63.toInt ∧ t6_c63.toInt ≤ 100) → (SI g0_c63 v0) → (FRM (1539) (1596) sf g0_c63) → (n.toInt - t6_c63.toInt).toNat < nf → va_P D kl [(h, .inr (7, [.ref sl, .int na, .ref zs, .ref ln, .ref ir, .ref tk, .int su, .int le, .ref tb, .int fu, .int ap, .int pp, .ref tr, .int tc, .ref fz, .int nm])), (sl, .inl (cI, 1653, .inl g0_c63))] H → va_D A [(h, .inr (7, [.ref sl, .int na, .ref zs, .ref ln, .ref ir, .ref tk, .int su, .int le, .ref tb, .int fu, .int ap, .int pp, .ref tr, .int tc, .ref fz, .int nm])), (sl, .inl (cI, 1653, .inl g0_c63))] → va_S A s.heap H locs → lv_has ls 8 [(6, .int t6_c63), (4, .long t4_c63), (0, .ref h), (1, .int n), (2, .int k), (3, .int b)] → W p l e ({ frames := 5, cells := 0, slots := 0, locals := 122 }) s m ([.ref h, .int n, .int k, .int b] : List Value).toArray below meth c H locs 0 0 (MQ below (va_Qi (fun (r : Int32) (u : (Nat → Int32)) => (FRM (1539) (1596) sf u) ∧ (SI u v0)) (fun u t => wb D A ((fun u => [(h, .inr (7, [.ref sl, .int na, .ref zs, .ref ln, .ref ir, .ref tk, .int su, .int le, .ref tb, .int fu, .int ap, .int pp, .ref tr, .int tc, .ref fz, .int nm])), (sl, .inl (cI, 1653, .inl u))]) u) t) A) ([.ref h, .int n, .int k, .int b] : List Value).toArray s 0 0 A) (F0 m 63 ls []) := by
            intro nf
            induction nf with
            | zero =>
              intro t6_c63 t4_c63 g0_c63 H locs ls i_t6_c63 ha_g0_c63 hf_c63 hm
              exact absurd hm (Nat.not_lt_zero _)
            | succ nf ih63 =>
              intro t6_c63 t4_c63 g0_c63 H locs ls i_t6_c63 ha_g0_c63 hf_c63 hm63 hP hD hS hl
              refine lv_iload hx hb dX8_year_63 (lv_at hl 0 rfl) ?_
              refine lv_iload_n hx hb dX8_year_65 rfl (lv_at hl 3 rfl) ?_
              refine lv_icmp_ge (tgt := 135) hx hb dX8_year_66 (by decide) (fun c_7 => ?_) (fun c_7 => ?_)
              · have f_7 : n.toInt ≤ t6_c63.toInt := zi_le c_7
                refine lv_iconst (v := 0) hx hb dX8_year_135 (by decide) ?_
                refine lv_istore (lv' := [(6, .int 0), (4, .long t4_c63), (0, .ref h), (1, .int n), (2, .int k), (3, .int b)]) hx hb dX8_year_136 hl (by decide) rfl (fun ls hl => ?_)
                refine lv_iconst (v := 1) hx hb dX8_year_138 (by decide) ?_
                refine lv_istore (lv' := [(7, .int 1), (6, .int 0), (4, .long t4_c63), (0, .ref h), (1, .int n), (2, .int k), (3, .int b)]) hx hb dX8_year_139 hl (by decide) rfl (fun ls hl => ?_)
                have hL141 : ∀ (nf : Nat) (t7_c141 : Int32) (t6_c141 : Int32) (H : Heap) (locs : List Loc) (ls : Array Slot), (1 ≤ t7_c141.toInt ∧ t7_c141.toInt ≤ 8) → (0 ≤ t6_c141.toInt ∧ t6_c141.toInt ≤ 7) → (8 - t7_c141.toInt).toNat < nf → va_P D kl [(h, .inr (7, [.ref sl, .int na, .ref zs, .ref ln, .ref ir, .ref tk, .int su, .int le, .ref tb, .int fu, .int ap, .int pp, .ref tr, .int tc, .ref fz, .int nm])), (sl, .inl (cI, 1653, .inl g0_c63))] H → va_D A [(h, .inr (7, [.ref sl, .int na, .ref zs, .ref ln, .ref ir, .ref tk, .int su, .int le, .ref tb, .int fu, .int ap, .int pp, .ref tr, .int tc, .ref fz, .int nm])), (sl, .inl (cI, 1653, .inl g0_c63))] → va_S A s.heap H locs → lv_has ls 8 [(7, .int t7_c141), (6, .int t6_c141), (4, .long t4_c63), (0, .ref h), (1, .int n), (2, .int k), (3, .int b)] → W p l e ({ frames := 5, cells := 0, slots := 0, locals := 122 }) s m ([.ref h, .int n, .int k, .int b] : List Value).toArray below meth c H locs 0 0 (MQ below (va_Qi (fun (r : Int32) (u : (Nat → Int32)) => (FRM (1539) (1596) sf u) ∧ (SI u v0)) (fun u t => wb D A ((fun u => [(h, .inr (7, [.ref sl, .int na, .ref zs, .ref ln, .ref ir, .ref tk, .int su, .int le, .ref tb, .int fu, .int ap, .int pp, .ref tr, .int tc, .ref fz, .int nm])), (sl, .inl (cI, 1653, .inl u))]) u) t) A) ([.ref h, .int n, .int k, .int b] : List Value).toArray s 0 0 A) (F0 m 141 ls []) := by
                  intro nf
                  induction nf with
                  | zero =>
                    intro t7_c141 t6_c141 H locs ls i_t7_c141 i_t6_c141 hm
                    exact absurd hm (Nat.not_lt_zero _)
                  | succ nf ih141 =>
                    intro t7_c141 t6_c141 H locs ls i_t7_c141 i_t6_c141 hm141 hP hD hS hl
                    refine lv_iload hx hb dX8_year_141 (lv_at hl 0 rfl) ?_
                    refine lv_aload_n hx hb dX8_year_143 rfl (lv_at hl 3 rfl) ?_
                    refine va_get (D := D) (ci := 7) (v := .ref sl) (C := RX8) (T := TX8) (N := 16) hx hb hts (fun _ h => List.mem_cons_of_mem _ (List.mem_append_right _ h)) hown hK hP 0 rfl rfl 0 (by decide) (hts (.fieldLink RX8 7 "WinterWalkModel" "slot" "[I") (List.mem_of_getElem? (i := 1) rfl)) (fun _ h9 => h9) rfl dX8_year_144 ?_
                    refine lv_iconst (v := 1) hx hb dX8_year_147 (by decide) ?_
                    refine va_iald hx hb hK hP 1 0 rfl rfl (zi_in (by decide) (by decide)) dX8_year_148 ?_
                    refine lv_topi (fun x_8 ex_8 => ?_)
                    have f_8 : 0 ≤ x_8.toInt ∧ x_8.toInt ≤ 8 := by rw [ex_8]; exact si_v ha_g0_c63 (s := 0) (by decide) (by omega)
                    have g_8 : x_8.toInt = v0 := by rw [ex_8]; exact ha_g0_c63.2
                    refine lv_icmp_ge (tgt := 192) hx hb dX8_year_149 (by decide) (fun c_9 => ?_) (fun c_9 => ?_)
                    · have f_9 : x_8.toInt ≤ t7_c141.toInt := zi_le c_9
                      refine lv_iload_n hx hb dX8_year_192 rfl (lv_at hl 6 rfl) ?_
                      refine lv_if_ne (tgt := 215) hx hb dX8_year_193 (by decide) (fun c_10 => ?_) (fun c_10 => ?_)
                      · have f_10 : ¬ b.toInt = 0 := zi_ne c_10
                        refine lv_iload hx hb dX8_year_215 (lv_at hl 1 rfl) ?_
                        exact wr_i (v := t6_c141) hx hb hr hlocks hS g0_c63 (by exact ⟨show FRM (1539) (1596) sf g0_c63 from hf_c63, ha_g0_c63⟩) (hP.sub [0, 1] rfl) (hD.sub [0, 1] (by decide) rfl) dX8_year_217
                      · have f_10 : b.toInt = 0 := zi_eq c_10
                        refine lv_aload_n hx hb dX8_year_196 rfl (lv_at hl 3 rfl) ?_
                        refine va_get (D := D) (ci := 7) (v := .ref sl) (C := RX8) (T := TX8) (N := 16) hx hb hts (fun _ h => List.mem_cons_of_mem _ (List.mem_append_right _ h)) hown hK hP 0 rfl rfl 0 (by decide) (hts (.fieldLink RX8 7 "WinterWalkModel" "slot" "[I") (List.mem_of_getElem? (i := 1) rfl)) (fun _ h9 => h9) rfl dX8_year_197 ?_
                        refine lv_sipush (v := 1594) hx hb dX8_year_200 (by decide) ?_
                        refine va_iald hx hb hK hP 1 0 rfl rfl (zi_in (by decide) (by decide)) dX8_year_203 ?_
                        refine lv_topi (fun x_11 ex_11 => ?_)
                        refine lv_aload_n hx hb dX8_year_204 rfl (lv_at hl 3 rfl) ?_
                        refine va_get (D := D) (ci := 7) (v := .ref sl) (C := RX8) (T := TX8) (N := 16) hx hb hts (fun _ h => List.mem_cons_of_mem _ (List.mem_append_right _ h)) hown hK hP 0 rfl rfl 0 (by decide) (hts (.fieldLink RX8 7 "WinterWalkModel" "slot" "[I") (List.mem_of_getElem? (i := 1) rfl)) (fun _ h9 => h9) rfl dX8_year_205 ?_
                        refine lv_bipush (v := 55) hx hb dX8_year_208 (by decide) ?_
                        refine va_iald hx hb hK hP 1 0 rfl rfl (zi_in (by decide) (by decide)) dX8_year_210 ?_
                        refine lv_topi (fun x_12 ex_12 => ?_)
                        refine lv_isub hx hb dX8_year_211 ?_
                        refine lv_topi (fun x_13 ex_13 => ?_)
                        clear ex_13
                        refine lv_goto (tgt := 217) hx hb dX8_year_212 (by decide) ?_
                        exact wr_i (v := x_13) hx hb hr hlocks hS g0_c63 (by exact ⟨show FRM (1539) (1596) sf g0_c63 from hf_c63, ha_g0_c63⟩) (hP.sub [0, 1] rfl) (hD.sub [0, 1] (by decide) rfl) dX8_year_217
                    · have f_9 : ¬ x_8.toInt ≤ t7_c141.toInt := zi_nle c_9
                      refine lv_aload_n hx hb dX8_year_152 rfl (lv_at hl 3 rfl) ?_
                      refine va_get (D := D) (ci := 7) (v := .ref sl) (C := RX8) (T := TX8) (N := 16) hx hb hts (fun _ h => List.mem_cons_of_mem _ (List.mem_append_right _ h)) hown hK hP 0 rfl rfl 0 (by decide) (hts (.fieldLink RX8 7 "WinterWalkModel" "slot" "[I") (List.mem_of_getElem? (i := 1) rfl)) (fun _ h9 => h9) rfl dX8_year_153 ?_
                      refine lv_sipush (v := 1579) hx hb dX8_year_156 (by decide) ?_
                      refine lv_iload hx hb dX8_year_159 (lv_at hl 0 rfl) ?_
                      refine lv_iadd hx hb dX8_year_161 ?_
                      refine lv_topi (fun x_14 ex_14 => ?_)
                      have e_14 : x_14.toInt = 1579 + t7_c141.toInt := by rw [ex_14]; exact zi_add (by decide) (rfl) (by omega) (by omega)
                      clear ex_14
                      refine va_iald hx hb hK hP 1 0 rfl rfl (zi_in (by omega) (by omega)) dX8_year_162 ?_
                      refine lv_topi (fun x_15 ex_15 => ?_)
                      clear ex_15
                      refine lv_aload_n hx hb dX8_year_163 rfl (lv_at hl 3 rfl) ?_
                      refine va_get (D := D) (ci := 7) (v := .ref sl) (C := RX8) (T := TX8) (N := 16) hx hb hts (fun _ h => List.mem_cons_of_mem _ (List.mem_append_right _ h)) hown hK hP 0 rfl rfl 0 (by decide) (hts (.fieldLink RX8 7 "WinterWalkModel" "slot" "[I") (List.mem_of_getElem? (i := 1) rfl)) (fun _ h9 => h9) rfl dX8_year_164 ?_
                      refine lv_sipush (v := 1579) hx hb dX8_year_167 (by decide) ?_
                      refine lv_iload hx hb dX8_year_170 (lv_at hl 1 rfl) ?_
                      refine lv_iadd hx hb dX8_year_172 ?_
                      refine lv_topi (fun x_16 ex_16 => ?_)
                      have e_16 : x_16.toInt = 1579 + t6_c141.toInt := by rw [ex_16]; exact zi_add (by decide) (rfl) (by omega) (by omega)
                      clear ex_16
                      refine va_iald hx hb hK hP 1 0 rfl rfl (zi_in (by omega) (by omega)) dX8_year_173 ?_
                      refine lv_topi (fun x_17 ex_17 => ?_)
                      clear ex_17
                      refine lv_icmp_le (tgt := 182) hx hb dX8_year_174 (by decide) (fun c_18 => ?_) (fun c_18 => ?_)
                      · have f_18 : x_15.toInt ≤ x_17.toInt := zi_le c_18
                        refine lv_iload hx hb dX8_year_182 (lv_at hl 1 rfl) ?_
                        refine lv_istore (lv' := [(6, .int t6_c141), (7, .int t7_c141), (4, .long t4_c63), (0, .ref h), (1, .int n), (2, .int k), (3, .int b)]) hx hb dX8_year_184 hl (by decide) rfl (fun ls hl => ?_)
                        obtain ⟨x_19, ex_19⟩ : ∃ y : Int32, y = t7_c141 + Int32.ofInt 1 := ⟨_, rfl⟩
                        refine lv_iinc (v := x_19) (lv' := [(7, .int x_19), (6, .int t6_c141), (4, .long t4_c63), (0, .ref h), (1, .int n), (2, .int k), (3, .int b)]) hx hb dX8_year_186 hl (k := 1) rfl ex_19.symm (by decide) rfl (fun ls hl => ?_)
                        have ex_19 : x_19 = t7_c141 + 1 := ex_19
                        have e_19 : x_19.toInt = t7_c141.toInt + 1 := by rw [ex_19]; exact zi_add (rfl) (by decide) (by omega) (by omega)
                        clear ex_19
                        refine lv_goto (tgt := 141) hx hb dX8_year_189 (by decide) ?_
                        exact ih141 x_19 t6_c141 _ _ _ (show 1 ≤ x_19.toInt ∧ x_19.toInt ≤ 8 from by omega) (show 0 ≤ t6_c141.toInt ∧ t6_c141.toInt ≤ 7 from by omega) (by omega) (hP.sub [0, 1] rfl) (hD.sub [0, 1] (by decide) rfl) hS (lv_sub hl [0, 1, 2, 3, 4, 5, 6] rfl)
                      · have f_18 : ¬ x_15.toInt ≤ x_17.toInt := zi_nle c_18
                        refine lv_iload hx hb dX8_year_177 (lv_at hl 0 rfl) ?_
                        refine lv_goto (tgt := 184) hx hb dX8_year_179 (by decide) ?_
                        refine lv_istore (lv' := [(6, .int t7_c141), (7, .int t7_c141), (4, .long t4_c63), (0, .ref h), (1, .int n), (2, .int k), (3, .int b)]) hx hb dX8_year_184 hl (by decide) rfl (fun ls hl => ?_)
                        obtain ⟨x_20, ex_20⟩ : ∃ y : Int32, y = t7_c141 + Int32.ofInt 1 := ⟨_, rfl⟩
                        refine lv_iinc (v := x_20) (lv' := [(7, .int x_20), (6, .int t7_c141), (4, .long t4_c63), (0, .ref h), (1, .int n), (2, .int k), (3, .int b)]) hx hb dX8_year_186 hl (k := 1) rfl ex_20.symm (by decide) rfl (fun ls hl => ?_)
                        have ex_20 : x_20 = t7_c141 + 1 := ex_20
                        have e_20 : x_20.toInt = t7_c141.toInt + 1 := by rw [ex_20]; exact zi_add (rfl) (by decide) (by omega) (by omega)
                        clear ex_20
                        refine lv_goto (tgt := 141) hx hb dX8_year_189 (by decide) ?_
                        exact ih141 x_20 t7_c141 _ _ _ (show 1 ≤ x_20.toInt ∧ x_20.toInt ≤ 8 from by omega) (show 0 ≤ t7_c141.toInt ∧ t7_c141.toInt ≤ 7 from by omega) (by omega) (hP.sub [0, 1] rfl) (hD.sub [0, 1] (by decide) rfl) hS (lv_sub hl [0, 1, 2, 3, 4, 5, 6] rfl)
                exact hL141 (((8 - (1 : Int32).toInt).toNat) + 1) 1 0 _ _ _ (show 1 ≤ 1 ∧ 1 ≤ 8 from by omega) (show 0 ≤ 0 ∧ 0 ≤ 7 from by omega) (Nat.lt_succ_self _) (hP.sub [0, 1] rfl) (hD.sub [0, 1] (by decide) rfl) hS (lv_sub hl [0, 1, 2, 3, 4, 5, 6] rfl)
              · have f_7 : ¬ n.toInt ≤ t6_c63.toInt := zi_nle c_7
                refine lv_lload hx hb dX8_year_69 (lv_at hl 1 rfl) ?_
                refine lv_ldc2 (v := 16807) hx hb hown (hts (.constantLong RX8 201 (16807)) (List.mem_of_getElem? (i := 6) rfl)) dX8_year_71 ?_
                refine lv_lmul hx hb dX8_year_74 ?_
                refine lv_topl (fun x_21 ex_21 => ?_)
                clear ex_21
                refine lv_ldc2 (v := 2147483647) hx hb hown (hts (.constantLong RX8 203 (2147483647)) (List.mem_of_getElem? (i := 7) rfl)) dX8_year_75 ?_
                refine lv_lrem hx hb dX8_year_78 (by decide) ?_
                refine lv_topl (fun x_22 ex_22 => ?_)
                clear ex_22
                refine lv_lstore (lv' := [(4, .long x_22), (6, .int t6_c63), (0, .ref h), (1, .int n), (2, .int k), (3, .int b)]) hx hb dX8_year_79 hl (by decide) rfl (fun ls hl => ?_)
                refine lv_iconst (v := 1) hx hb dX8_year_81 (by decide) ?_
                refine lv_lload hx hb dX8_year_82 (lv_at hl 0 rfl) ?_
                refine lv_aload_n hx hb dX8_year_84 rfl (lv_at hl 2 rfl) ?_
                refine va_get (D := D) (ci := 7) (v := .ref sl) (C := RX8) (T := TX8) (N := 16) hx hb hts (fun _ h => List.mem_cons_of_mem _ (List.mem_append_right _ h)) hown hK hP 0 rfl rfl 0 (by decide) (hts (.fieldLink RX8 7 "WinterWalkModel" "slot" "[I") (List.mem_of_getElem? (i := 1) rfl)) (fun _ h9 => h9) rfl dX8_year_85 ?_
                refine lv_iconst (v := 1) hx hb dX8_year_88 (by decide) ?_
                refine va_iald hx hb hK hP 1 0 rfl rfl (zi_in (by decide) (by decide)) dX8_year_89 ?_
                refine lv_topi (fun x_23 ex_23 => ?_)
                have f_23 : 0 ≤ x_23.toInt ∧ x_23.toInt ≤ 8 := by rw [ex_23]; exact si_v ha_g0_c63 (s := 0) (by decide) (by omega)
                have g_23 : x_23.toInt = v0 := by rw [ex_23]; exact ha_g0_c63.2
                refine lv_i2l (v := (x_23.toInt64)) hx hb dX8_year_90 rfl ?_
                refine lv_lrem hx hb dX8_year_91 (zl_nz (by rw [zl_of]; omega)) ?_
                refine lv_topl (fun x_24 ex_24 => ?_)
                clear ex_24
                obtain ⟨x_25, ex_25⟩ : ∃ q, (x_24 : Int64).toInt32 = q := ⟨_, rfl⟩
                refine lv_l2i hx hb dX8_year_92 ex_25 ?_
                refine lv_ishl hx hb dX8_year_93 ?_
                refine lv_topi (fun x_26 ex_26 => ?_)
                clear ex_26
                refine lv_istore (lv' := [(7, .int x_26), (4, .long x_22), (6, .int t6_c63), (0, .ref h), (1, .int n), (2, .int k), (3, .int b)]) hx hb dX8_year_94 hl (by decide) rfl (fun ls hl => ?_)
                refine lv_aload_n hx hb dX8_year_96 rfl (lv_at hl 3 rfl) ?_
                refine va_get (D := D) (ci := 7) (v := .ref sl) (C := RX8) (T := TX8) (N := 16) hx hb hts (fun _ h => List.mem_cons_of_mem _ (List.mem_append_right _ h)) hown hK hP 0 rfl rfl 0 (by decide) (hts (.fieldLink RX8 7 "WinterWalkModel" "slot" "[I") (List.mem_of_getElem? (i := 1) rfl)) (fun _ h9 => h9) rfl dX8_year_97 ?_
                refine lv_sipush (v := 1570) hx hb dX8_year_100 (by decide) ?_
                refine lv_dup2_11 hx hb dX8_year_103 rfl rfl ?_
                refine va_iald hx hb hK hP 1 0 rfl rfl (zi_in (by decide) (by decide)) dX8_year_104 ?_
                refine lv_topi (fun x_27 ex_27 => ?_)
                refine lv_iload hx hb dX8_year_105 (lv_at hl 0 rfl) ?_
                refine lv_ixor hx hb dX8_year_107 ?_
                refine lv_topi (fun x_28 ex_28 => ?_)
                clear ex_28
                refine va_iast hx hb hK hP hD hS 1 0 rfl rfl (zi_in (by decide) (by decide)) dX8_year_108 (fun H locs hP hD hS => ?_)
                have hP : va_P D kl [(h, .inr (7, [.ref sl, .int na, .ref zs, .ref ln, .ref ir, .ref tk, .int su, .int le, .ref tb, .int fu, .int ap, .int pp, .ref tr, .int tc, .ref fz, .int nm])), (sl, .inl (cI, 1653, .inl (upd g0_c63 (1570 : Int32).toNatClampNeg x_28)))] H := hP
                have hD : va_D A [(h, .inr (7, [.ref sl, .int na, .ref zs, .ref ln, .ref ir, .ref tk, .int su, .int le, .ref tb, .int fu, .int ap, .int pp, .ref tr, .int tc, .ref fz, .int nm])), (sl, .inl (cI, 1653, .inl (upd g0_c63 (1570 : Int32).toNatClampNeg x_28)))] := hD
                have hq_29 : (1570 : Int32).toInt = 1570 := by decide
                have ha_29 : SI (upd g0_c63 (1570 : Int32).toNatClampNeg x_28) v0 := si_up ha_g0_c63 (by omega) (fun s0 a0 b0 e0 => by omega) (fun s0 a0 b0 e0 => by omega) (fun s0 k0 a0 b0 c0 d0 e0 => by omega) (by omega)
                have hi_30 : (1570 : Int32).toInt = 1570 := by decide
                have hf_30 : FRM (1539) (1596) sf (upd g0_c63 (1570 : Int32).toNatClampNeg x_28) := FRM.up hf_c63 (by omega)
                refine lv_aload_n hx hb dX8_year_109 rfl (lv_at hl 3 rfl) ?_
                refine lv_bipush (v := 27) hx hb dX8_year_110 (by decide) ?_
                refine lv_iconst (v := (-1)) hx hb dX8_year_112 (by decide) ?_
                have k_31 := (f_X8_day l D cI cB cQ H.size h sl zs ln ir tk tb tr fz na su le fu ap pp tc nm 27 (-1) (upd g0_c63 (1570 : Int32).toNatClampNeg x_28) v0 ha_29 ⟨by decide, by decide⟩)
                refine wc_v (WC := [(h, .inr (7, [.ref sl, .int na, .ref zs, .ref ln, .ref ir, .ref tk, .int su, .int le, .ref tb, .int fu, .int ap, .int pp, .ref tr, .int tc, .ref fz, .int nm])), (sl, .inl (cI, 1653, .inl (upd g0_c63 (1570 : Int32).toNatClampNeg x_28)))]) (WR := []) (va_runV (As := [.int 27, .int (-1)]) (rest := []) ⟨hx, hb, hml, hown, hts⟩ k_31 (cwV 2 hts gX8_year_X8_day rfl rfl rfl (by decide +kernel) ⟨Nat.le_of_ble_eq_true rfl, Nat.le_of_ble_eq_true rfl⟩) (wp_V hP hK hD hN [0, 1] (by decide) rfl (ci := 7) rfl rfl) rfl rfl hl.1 rfl (lv_room (Nat.le_of_ble_eq_true rfl)) dX8_year_113 ⟨Nat.le_of_ble_eq_true rfl, Nat.le_of_ble_eq_true rfl⟩) hP hD hS hA [0, 1] [] rfl rfl (by decide) (by decide) (fun u_31 H locs hw_31 hP hD hS => ?_)
                clear k_31
                have hP : va_P D kl [(h, .inr (7, [.ref sl, .int na, .ref zs, .ref ln, .ref ir, .ref tk, .int su, .int le, .ref tb, .int fu, .int ap, .int pp, .ref tr, .int tc, .ref fz, .int nm])), (sl, .inl (cI, 1653, .inl u_31))] H := hP
                have hD : va_D A [(h, .inr (7, [.ref sl, .int na, .ref zs, .ref ln, .ref ir, .ref tk, .int su, .int le, .ref tb, .int fu, .int ap, .int pp, .ref tr, .int tc, .ref fz, .int nm])), (sl, .inl (cI, 1653, .inl u_31))] := hD
                obtain ⟨c31_0, c31_1⟩ := hw_31
                have c31_0 : FRM (57 * (27 : Int) + 31) (57 * (27 : Int) + 57) (upd g0_c63 (1570 : Int32).toNatClampNeg x_28) u_31 := c31_0
                have c31_1 : SI u_31 v0 := c31_1
                have hf_31 : FRM (1539) (1596) sf u_31 := FRM.trans hf_30 (FRM.sub c31_0 (by omega) (by omega))
                refine lv_aload_n hx hb dX8_year_116 rfl (lv_at hl 3 rfl) ?_
                refine va_get (D := D) (ci := 7) (v := .ref sl) (C := RX8) (T := TX8) (N := 16) hx hb hts (fun _ h => List.mem_cons_of_mem _ (List.mem_append_right _ h)) hown hK hP 0 rfl rfl 0 (by decide) (hts (.fieldLink RX8 7 "WinterWalkModel" "slot" "[I") (List.mem_of_getElem? (i := 1) rfl)) (fun _ h9 => h9) rfl dX8_year_117 ?_
                refine lv_sipush (v := 1570) hx hb dX8_year_120 (by decide) ?_
                refine lv_dup2_11 hx hb dX8_year_123 rfl rfl ?_
                refine va_iald hx hb hK hP 1 0 rfl rfl (zi_in (by decide) (by decide)) dX8_year_124 ?_
                refine lv_topi (fun x_32 ex_32 => ?_)
                refine lv_iload hx hb dX8_year_125 (lv_at hl 0 rfl) ?_
                refine lv_ixor hx hb dX8_year_127 ?_
                refine lv_topi (fun x_33 ex_33 => ?_)
                clear ex_33
                refine va_iast hx hb hK hP hD hS 1 0 rfl rfl (zi_in (by decide) (by decide)) dX8_year_128 (fun H locs hP hD hS => ?_)
                have hP : va_P D kl [(h, .inr (7, [.ref sl, .int na, .ref zs, .ref ln, .ref ir, .ref tk, .int su, .int le, .ref tb, .int fu, .int ap, .int pp, .ref tr, .int tc, .ref fz, .int nm])), (sl, .inl (cI, 1653, .inl (upd u_31 (1570 : Int32).toNatClampNeg x_33)))] H := hP
                have hD : va_D A [(h, .inr (7, [.ref sl, .int na, .ref zs, .ref ln, .ref ir, .ref tk, .int su, .int le, .ref tb, .int fu, .int ap, .int pp, .ref tr, .int tc, .ref fz, .int nm])), (sl, .inl (cI, 1653, .inl (upd u_31 (1570 : Int32).toNatClampNeg x_33)))] := hD
                have hq_34 : (1570 : Int32).toInt = 1570 := by decide
                have ha_34 : SI (upd u_31 (1570 : Int32).toNatClampNeg x_33) v0 := si_up c31_1 (by omega) (fun s0 a0 b0 e0 => by omega) (fun s0 a0 b0 e0 => by omega) (fun s0 k0 a0 b0 c0 d0 e0 => by omega) (by omega)
                have hi_35 : (1570 : Int32).toInt = 1570 := by decide
                have hf_35 : FRM (1539) (1596) sf (upd u_31 (1570 : Int32).toNatClampNeg x_33) := FRM.up hf_31 (by omega)
                obtain ⟨x_36, ex_36⟩ : ∃ y : Int32, y = t6_c63 + Int32.ofInt 1 := ⟨_, rfl⟩
                refine lv_iinc (v := x_36) (lv' := [(6, .int x_36), (7, .int x_26), (4, .long x_22), (0, .ref h), (1, .int n), (2, .int k), (3, .int b)]) hx hb dX8_year_129 hl (k := 2) rfl ex_36.symm (by decide) rfl (fun ls hl => ?_)
                have ex_36 : x_36 = t6_c63 + 1 := ex_36
                have e_36 : x_36.toInt = t6_c63.toInt + 1 := by rw [ex_36]; exact zi_add (rfl) (by decide) (by omega) (by omega)
                clear ex_36
                refine lv_goto (tgt := 63) hx hb dX8_year_132 (by decide) ?_
                exact ih63 x_36 x_22 (upd u_31 (1570 : Int32).toNatClampNeg x_33) _ _ _ (show 0 ≤ x_36.toInt ∧ x_36.toInt ≤ 100 from by omega) ha_34 hf_35 (by omega) (hP.sub [0, 1] rfl) (hD.sub [0, 1] (by decide) rfl) hS (lv_sub hl [0, 2, 3, 4, 5, 6] rfl)
          exact hL63 (((n.toInt - (0 : Int32).toInt).toNat) + 1) 0 (k.toInt64) u_6 _ _ _ (show 0 ≤ 0 ∧ 0 ≤ 100 from by omega) c6_2 hf_6 (Nat.lt_succ_self _) (hP.sub [0, 1] rfl) (hD.sub [0, 1] (by decide) rfl) hS (lv_sub hl [0, 1, 2, 3, 4, 5] rfl)
        · subst e_5
          have f_5 : ¬ ((0 : Int) ≤ b.toInt ∧ b.toInt ≤ (1 : Int)) := by
            have h8 := f_5
            try simp only [zl_of] at h8
            exact h8
          refine lv_if_ne (tgt := 49) hx hb dX8_year_43 (by decide) (fun c9 => absurd (by decide) c9) (fun _ => ?_)
          refine lv_ldc (v := (-1000001)) hx hb hown (hts (.constant RX8 48 (-1000001)) (List.mem_of_getElem? (i := 5) rfl)) dX8_year_46 ?_
          exact wr_i (v := (-1000001)) hx hb hr hlocks hS sf (by exact ⟨show FRM (1539) (1596) sf sf from FRM.refl, hsi⟩) (hP.sub [0, 1] rfl) (hD.sub [0, 1] (by decide) rfl) dX8_year_48
      · subst e_4
        have f_4 : ¬ ((1 : Int) ≤ k.toInt ∧ k.toInt ≤ (999999 : Int)) := by
          have h8 := f_4
          try simp only [zl_of] at h8
          exact h8
        refine lv_if_eq (tgt := 46) hx hb dX8_year_33 (by decide) (fun _ => ?_) (fun c9 => absurd (by decide) c9)
        refine lv_ldc (v := (-1000001)) hx hb hown (hts (.constant RX8 48 (-1000001)) (List.mem_of_getElem? (i := 5) rfl)) dX8_year_46 ?_
        exact wr_i (v := (-1000001)) hx hb hr hlocks hS sf (by exact ⟨show FRM (1539) (1596) sf sf from FRM.refl, hsi⟩) (hP.sub [0, 1] rfl) (hD.sub [0, 1] (by decide) rfl) dX8_year_48
    · subst e_3
      have f_3 : ¬ ((0 : Int) ≤ n.toInt ∧ n.toInt ≤ (100 : Int)) := by
        have h8 := f_3
        try simp only [zl_of] at h8
        exact h8
      refine lv_if_eq (tgt := 46) hx hb dX8_year_21 (by decide) (fun _ => ?_) (fun c9 => absurd (by decide) c9)
      refine lv_ldc (v := (-1000001)) hx hb hown (hts (.constant RX8 48 (-1000001)) (List.mem_of_getElem? (i := 5) rfl)) dX8_year_46 ?_
      exact wr_i (v := (-1000001)) hx hb hr hlocks hS sf (by exact ⟨show FRM (1539) (1596) sf sf from FRM.refl, hsi⟩) (hP.sub [0, 1] rfl) (hD.sub [0, 1] (by decide) rfl) dX8_year_48
  · have f_2 : x_1.toInt = 0 := zi_eq c_2
    refine lv_ldc (v := (-1000002)) hx hb hown (hts (.constant RX8 121 (-1000002)) (List.mem_of_getElem? (i := 2) rfl)) dX8_year_9 ?_
    exact wr_i (v := (-1000002)) hx hb hr hlocks hS sf (by exact ⟨show FRM (1539) (1596) sf sf from FRM.refl, hsi⟩) (hP.sub [0, 1] rfl) (hD.sub [0, 1] (by decide) rfl) dX8_year_11
set_option maxHeartbeats 4000000 in
set_option maxRecDepth 100000 in
theorem f_X8_late (l : Launch) (D : va_G) (cI cB cQ : ClassId) (sz : Nat) (h : Nat) (sl : Nat) (zs : Nat) (ln : Nat) (ir : Nat) (tk : Nat) (tb : Nat) (tr : Nat) (fz : Nat) (na : Int32) (su : Int32) (le : Int32) (fu : Int32) (ap : Int32) (pp : Int32) (tc : Int32) (nm : Int32) (w : Int32) (k : Int32) (n : Int32) (v : Int32) (q : Int32) (sf : Nat → Int32) (v0 : Int) (hsi : SI sf v0) : ml l yX8_late wsX8_late ({ frames := 5, cells := 0, slots := 0, locals := 122 }) D cI cB cQ [.ref h, .int w, .int k, .int n, .int v, .int q] sz [(h, .inr (7, [.ref sl, .int na, .ref zs, .ref ln, .ref ir, .ref tk, .int su, .int le, .ref tb, .int fu, .int ap, .int pp, .ref tr, .int tc, .ref fz, .int nm])), (sl, .inl (cI, 1653, .inl sf))] (fun (r : Int64) (u : (Nat → Int32)) => (FRM (1539) (1596) sf u) ∧ (SI u v0)) (fun u => [(h, .inr (7, [.ref sl, .int na, .ref zs, .ref ln, .ref ir, .ref tk, .int su, .int le, .ref tb, .int fu, .int ap, .int pp, .ref tr, .int tc, .ref fz, .int nm])), (sl, .inl (cI, 1653, .inl u))]) 0 0 := by
  refine wm_l (cc := cX8_late) (maxL := 18) (ret := (some .long)) (by decide) rfl (Nat.le_of_ble_eq_true rfl) ?_
  intro p e s m below meth c A ls hx hb hr hml hown hts hlocks hin hP hK hD hN hA hl hS
  have hown : s.vm.findClass RX8 = some m.cls := hown
  have hl : lv_has ls 18 [(0, .ref h), (1, .int w), (2, .int k), (3, .int n), (4, .int v), (5, .int q)] := hl
  change W p l e ({ frames := 5, cells := 0, slots := 0, locals := 122 }) s m ([.ref h, .int w, .int k, .int n, .int v, .int q] : List Value).toArray below meth c s.heap [] 0 0 (MQ below (va_Ql (fun (r : Int64) (u : (Nat → Int32)) => (FRM (1539) (1596) sf u) ∧ (SI u v0)) (fun u t => wb D A ((fun u => [(h, .inr (7, [.ref sl, .int na, .ref zs, .ref ln, .ref ir, .ref tk, .int su, .int le, .ref tb, .int fu, .int ap, .int pp, .ref tr, .int tc, .ref fz, .int nm])), (sl, .inl (cI, 1653, .inl u))]) u) t) A) ([.ref h, .int w, .int k, .int n, .int v, .int q] : List Value).toArray s 0 0 A) (F0 m 0 ls [])
  refine lv_aload_n hx hb dX8_late_0 rfl (lv_at hl 0 rfl) ?_
  refine lv_iload_n hx hb dX8_late_1 rfl (lv_at hl 1 rfl) ?_
  have k_1 := (g_X8_isWalkerThere l D cI cB cQ s.heap.size h sl zs ln ir tk tb tr fz na su le fu ap pp tc nm w sf v0 hsi)
  refine wc_i (WC := [(h, .inr (7, [.ref sl, .int na, .ref zs, .ref ln, .ref ir, .ref tk, .int su, .int le, .ref tb, .int fu, .int ap, .int pp, .ref tr, .int tc, .ref fz, .int nm])), (sl, .inl (cI, 1653, .inl sf))]) (WR := []) (va_runV (As := [.int w]) (rest := []) ⟨hx, hb, hml, hown, hts⟩ k_1 (cwV 1 hts gX8_late_X8_isWalkerThere rfl rfl rfl (by decide +kernel) ⟨Nat.le_of_ble_eq_true rfl, Nat.le_of_ble_eq_true rfl⟩) (wp_V hP hK hD hN [0, 1] (by decide) rfl (ci := 7) rfl rfl) rfl rfl hl.1 rfl (lv_room (Nat.le_of_ble_eq_true rfl)) dX8_late_2 ⟨Nat.le_of_ble_eq_true rfl, Nat.le_of_ble_eq_true rfl⟩) hP hD hS hA [0, 1] [] rfl rfl (by decide) (by decide) (fun r_1 u_1 H locs hw_1 hP hD hS => ?_)
  clear k_1
  have hP : va_P D kl [(h, .inr (7, [.ref sl, .int na, .ref zs, .ref ln, .ref ir, .ref tk, .int su, .int le, .ref tb, .int fu, .int ap, .int pp, .ref tr, .int tc, .ref fz, .int nm])), (sl, .inl (cI, 1653, .inl sf))] H := hP
  have hD : va_D A [(h, .inr (7, [.ref sl, .int na, .ref zs, .ref ln, .ref ir, .ref tk, .int su, .int le, .ref tb, .int fu, .int ap, .int pp, .ref tr, .int tc, .ref fz, .int nm])), (sl, .inl (cI, 1653, .inl sf))] := hD
  have c1_0 := hw_1
  rcases c1_0 with ⟨e_1, f_1⟩ | e_1
  · subst e_1
    have f_1 : 0 ≤ w.toInt ∧ w.toInt ≤ 2 := f_1
    refine lv_if_eq (tgt := 52) hx hb dX8_late_5 (by decide) (fun c9 => absurd c9 (by decide)) (fun _ => ?_)
    refine lv_iload_n hx hb dX8_late_8 rfl (lv_at hl 2 rfl) ?_
    refine lv_i2l (v := (k.toInt64)) hx hb dX8_late_9 rfl ?_
    refine lv_lconst (v := 0) hx hb dX8_late_10 (by decide) ?_
    refine lv_ldc2 (v := 10) hx hb hown (hts (.constantLong RX8 193 (10)) (List.mem_of_getElem? (i := 1) rfl)) dX8_late_11 ?_
    have k_2 := (g_X8_in l D cI cB cQ H.size (k.toInt64) 0 10)
    refine wc_i (WC := []) (WR := [(h, .inr (7, [.ref sl, .int na, .ref zs, .ref ln, .ref ir, .ref tk, .int su, .int le, .ref tb, .int fu, .int ap, .int pp, .ref tr, .int tc, .ref fz, .int nm])), (sl, .inl (cI, 1653, .inl sf))]) (va_runS (As := [.long (k.toInt64), .long 0, .long 10]) (rest := []) ⟨hx, hb, hml, hown, hts⟩ k_2 (va_cwS 3 hts gX8_late_X8_in rfl rfl rfl (by decide +kernel) ⟨Nat.le_of_ble_eq_true rfl, Nat.le_of_ble_eq_true rfl⟩) (wp_S hP hK hD hN [] (by decide) rfl) rfl rfl hl.1 rfl (lv_room (Nat.le_of_ble_eq_true rfl)) dX8_late_14 ⟨Nat.le_of_ble_eq_true rfl, Nat.le_of_ble_eq_true rfl⟩) hP hD hS hA [] [0, 1] rfl rfl (by decide) (by decide) (fun r_2 u_2 H locs hw_2 hP hD hS => ?_)
    clear k_2
    have hP : va_P D kl [(h, .inr (7, [.ref sl, .int na, .ref zs, .ref ln, .ref ir, .ref tk, .int su, .int le, .ref tb, .int fu, .int ap, .int pp, .ref tr, .int tc, .ref fz, .int nm])), (sl, .inl (cI, 1653, .inl sf))] H := hP
    have hD : va_D A [(h, .inr (7, [.ref sl, .int na, .ref zs, .ref ln, .ref ir, .ref tk, .int su, .int le, .ref tb, .int fu, .int ap, .int pp, .ref tr, .int tc, .ref fz, .int nm])), (sl, .inl (cI, 1653, .inl sf))] := hD
    have c2_0 := hw_2
    rcases c2_0 with ⟨e_2, f_2⟩ | ⟨e_2, f_2⟩
    · subst e_2
      have f_2 : (0 : Int) ≤ k.toInt ∧ k.toInt ≤ (10 : Int) := by
        have h8 := f_2
        try simp only [zl_of] at h8
        exact h8
      refine lv_if_eq (tgt := 52) hx hb dX8_late_17 (by decide) (fun c9 => absurd c9 (by decide)) (fun _ => ?_)
      refine lv_iload_n hx hb dX8_late_20 rfl (lv_at hl 3 rfl) ?_
      refine lv_i2l (v := (n.toInt64)) hx hb dX8_late_21 rfl ?_
      refine lv_lconst (v := 0) hx hb dX8_late_22 (by decide) ?_
      refine lv_ldc2 (v := 6) hx hb hown (hts (.constantLong RX8 195 (6)) (List.mem_of_getElem? (i := 2) rfl)) dX8_late_23 ?_
      have k_3 := (g_X8_in l D cI cB cQ H.size (n.toInt64) 0 6)
      refine wc_i (WC := []) (WR := [(h, .inr (7, [.ref sl, .int na, .ref zs, .ref ln, .ref ir, .ref tk, .int su, .int le, .ref tb, .int fu, .int ap, .int pp, .ref tr, .int tc, .ref fz, .int nm])), (sl, .inl (cI, 1653, .inl sf))]) (va_runS (As := [.long (n.toInt64), .long 0, .long 6]) (rest := []) ⟨hx, hb, hml, hown, hts⟩ k_3 (va_cwS 3 hts gX8_late_X8_in rfl rfl rfl (by decide +kernel) ⟨Nat.le_of_ble_eq_true rfl, Nat.le_of_ble_eq_true rfl⟩) (wp_S hP hK hD hN [] (by decide) rfl) rfl rfl hl.1 rfl (lv_room (Nat.le_of_ble_eq_true rfl)) dX8_late_26 ⟨Nat.le_of_ble_eq_true rfl, Nat.le_of_ble_eq_true rfl⟩) hP hD hS hA [] [0, 1] rfl rfl (by decide) (by decide) (fun r_3 u_3 H locs hw_3 hP hD hS => ?_)
      clear k_3
      have hP : va_P D kl [(h, .inr (7, [.ref sl, .int na, .ref zs, .ref ln, .ref ir, .ref tk, .int su, .int le, .ref tb, .int fu, .int ap, .int pp, .ref tr, .int tc, .ref fz, .int nm])), (sl, .inl (cI, 1653, .inl sf))] H := hP
      have hD : va_D A [(h, .inr (7, [.ref sl, .int na, .ref zs, .ref ln, .ref ir, .ref tk, .int su, .int le, .ref tb, .int fu, .int ap, .int pp, .ref tr, .int tc, .ref fz, .int nm])), (sl, .inl (cI, 1653, .inl sf))] := hD
      have c3_0 := hw_3
      rcases c3_0 with ⟨e_3, f_3⟩ | ⟨e_3, f_3⟩
      · subst e_3
        have f_3 : (0 : Int) ≤ n.toInt ∧ n.toInt ≤ (6 : Int) := by
          have h8 := f_3
          try simp only [zl_of] at h8
          exact h8
        refine lv_if_eq (tgt := 52) hx hb dX8_late_29 (by decide) (fun c9 => absurd c9 (by decide)) (fun _ => ?_)
        refine lv_aload_n hx hb dX8_late_32 rfl (lv_at hl 0 rfl) ?_
        refine lv_iload hx hb dX8_late_33 (lv_at hl 4 rfl) ?_
        have k_4 := (g_X8_isVillageThere l D cI cB cQ H.size h sl zs ln ir tk tb tr fz na su le fu ap pp tc nm v sf v0 hsi)
        refine wc_i (WC := [(h, .inr (7, [.ref sl, .int na, .ref zs, .ref ln, .ref ir, .ref tk, .int su, .int le, .ref tb, .int fu, .int ap, .int pp, .ref tr, .int tc, .ref fz, .int nm])), (sl, .inl (cI, 1653, .inl sf))]) (WR := []) (va_runV (As := [.int v]) (rest := []) ⟨hx, hb, hml, hown, hts⟩ k_4 (cwV 1 hts gX8_late_X8_isVillageThere rfl rfl rfl (by decide +kernel) ⟨Nat.le_of_ble_eq_true rfl, Nat.le_of_ble_eq_true rfl⟩) (wp_V hP hK hD hN [0, 1] (by decide) rfl (ci := 7) rfl rfl) rfl rfl hl.1 rfl (lv_room (Nat.le_of_ble_eq_true rfl)) dX8_late_35 ⟨Nat.le_of_ble_eq_true rfl, Nat.le_of_ble_eq_true rfl⟩) hP hD hS hA [0, 1] [] rfl rfl (by decide) (by decide) (fun r_4 u_4 H locs hw_4 hP hD hS => ?_)
        clear k_4
        have hP : va_P D kl [(h, .inr (7, [.ref sl, .int na, .ref zs, .ref ln, .ref ir, .ref tk, .int su, .int le, .ref tb, .int fu, .int ap, .int pp, .ref tr, .int tc, .ref fz, .int nm])), (sl, .inl (cI, 1653, .inl sf))] H := hP
        have hD : va_D A [(h, .inr (7, [.ref sl, .int na, .ref zs, .ref ln, .ref ir, .ref tk, .int su, .int le, .ref tb, .int fu, .int ap, .int pp, .ref tr, .int tc, .ref fz, .int nm])), (sl, .inl (cI, 1653, .inl sf))] := hD
        have c4_0 := hw_4
        rcases c4_0 with ⟨e_4, f_4⟩ | e_4
        · subst e_4
          have f_4 : 0 ≤ v.toInt ∧ v.toInt ≤ 7 ∧ v.toInt < v0 := f_4
          refine lv_if_eq (tgt := 52) hx hb dX8_late_38 (by decide) (fun c9 => absurd c9 (by decide)) (fun _ => ?_)
          refine lv_iload hx hb dX8_late_41 (lv_at hl 5 rfl) ?_
          refine lv_i2l (v := (q.toInt64)) hx hb dX8_late_43 rfl ?_
          refine lv_lconst (v := 0) hx hb dX8_late_44 (by decide) ?_
          refine lv_lconst (v := 1) hx hb dX8_late_45 (by decide) ?_
          have k_5 := (g_X8_in l D cI cB cQ H.size (q.toInt64) 0 1)
          refine wc_i (WC := []) (WR := [(h, .inr (7, [.ref sl, .int na, .ref zs, .ref ln, .ref ir, .ref tk, .int su, .int le, .ref tb, .int fu, .int ap, .int pp, .ref tr, .int tc, .ref fz, .int nm])), (sl, .inl (cI, 1653, .inl sf))]) (va_runS (As := [.long (q.toInt64), .long 0, .long 1]) (rest := []) ⟨hx, hb, hml, hown, hts⟩ k_5 (va_cwS 3 hts gX8_late_X8_in rfl rfl rfl (by decide +kernel) ⟨Nat.le_of_ble_eq_true rfl, Nat.le_of_ble_eq_true rfl⟩) (wp_S hP hK hD hN [] (by decide) rfl) rfl rfl hl.1 rfl (lv_room (Nat.le_of_ble_eq_true rfl)) dX8_late_46 ⟨Nat.le_of_ble_eq_true rfl, Nat.le_of_ble_eq_true rfl⟩) hP hD hS hA [] [0, 1] rfl rfl (by decide) (by decide) (fun r_5 u_5 H locs hw_5 hP hD hS => ?_)
          clear k_5
          have hP : va_P D kl [(h, .inr (7, [.ref sl, .int na, .ref zs, .ref ln, .ref ir, .ref tk, .int su, .int le, .ref tb, .int fu, .int ap, .int pp, .ref tr, .int tc, .ref fz, .int nm])), (sl, .inl (cI, 1653, .inl sf))] H := hP
          have hD : va_D A [(h, .inr (7, [.ref sl, .int na, .ref zs, .ref ln, .ref ir, .ref tk, .int su, .int le, .ref tb, .int fu, .int ap, .int pp, .ref tr, .int tc, .ref fz, .int nm])), (sl, .inl (cI, 1653, .inl sf))] := hD
          have c5_0 := hw_5
          rcases c5_0 with ⟨e_5, f_5⟩ | ⟨e_5, f_5⟩
          · subst e_5
            have f_5 : (0 : Int) ≤ q.toInt ∧ q.toInt ≤ (1 : Int) := by
              have h8 := f_5
              try simp only [zl_of] at h8
              exact h8
            refine lv_if_ne (tgt := 56) hx hb dX8_late_49 (by decide) (fun _ => ?_) (fun c9 => absurd c9 (by decide))
            refine lv_aload_n hx hb dX8_late_56 rfl (lv_at hl 0 rfl) ?_
            refine lv_iconst (v := 0) hx hb dX8_late_57 (by decide) ?_
            refine lv_bipush (v := 27) hx hb dX8_late_58 (by decide) ?_
            have k_6 := (f_X8_copies l D cI cB cQ H.size h sl zs ln ir tk tb tr fz na su le fu ap pp tc nm 0 27 sf v0 hsi ⟨by decide, by decide⟩ ⟨by decide, by decide⟩ (by have hk0 : (0 : Int32).toInt = 0 := (by decide); have hk1 : (27 : Int32).toInt = 27 := (by decide); omega))
            refine wc_v (WC := [(h, .inr (7, [.ref sl, .int na, .ref zs, .ref ln, .ref ir, .ref tk, .int su, .int le, .ref tb, .int fu, .int ap, .int pp, .ref tr, .int tc, .ref fz, .int nm])), (sl, .inl (cI, 1653, .inl sf))]) (WR := []) (va_runV (As := [.int 0, .int 27]) (rest := []) ⟨hx, hb, hml, hown, hts⟩ k_6 (cwV 2 hts gX8_late_X8_copies rfl rfl rfl (by decide +kernel) ⟨Nat.le_of_ble_eq_true rfl, Nat.le_of_ble_eq_true rfl⟩) (wp_V hP hK hD hN [0, 1] (by decide) rfl (ci := 7) rfl rfl) rfl rfl hl.1 rfl (lv_room (Nat.le_of_ble_eq_true rfl)) dX8_late_60 ⟨Nat.le_of_ble_eq_true rfl, Nat.le_of_ble_eq_true rfl⟩) hP hD hS hA [0, 1] [] rfl rfl (by decide) (by decide) (fun u_6 H locs hw_6 hP hD hS => ?_)
            clear k_6
            have hP : va_P D kl [(h, .inr (7, [.ref sl, .int na, .ref zs, .ref ln, .ref ir, .ref tk, .int su, .int le, .ref tb, .int fu, .int ap, .int pp, .ref tr, .int tc, .ref fz, .int nm])), (sl, .inl (cI, 1653, .inl u_6))] H := hP
            have hD : va_D A [(h, .inr (7, [.ref sl, .int na, .ref zs, .ref ln, .ref ir, .ref tk, .int su, .int le, .ref tb, .int fu, .int ap, .int pp, .ref tr, .int tc, .ref fz, .int nm])), (sl, .inl (cI, 1653, .inl u_6))] := hD
            obtain ⟨c6_0, c6_1, c6_2⟩ := hw_6
            have c6_0 : ∀ q : Nat, q < 57 → u_6 (57 * (27 : Int).toNat + q) = sf (57 * (0 : Int).toNat + q) := c6_0
            have c6_1 : FRM ((57 * (27 : Int))) ((57 * (27 : Int) + 57)) sf u_6 := c6_1
            have c6_2 : SI u_6 v0 := c6_2
            have hf_6 : FRM (1539) (1596) sf u_6 := FRM.trans FRM.refl (FRM.sub c6_1 (by omega) (by omega))
            refine lv_lconst (v := 0) hx hb dX8_late_63 (by decide) ?_
            refine lv_lstore (lv' := [(6, .long 0), (0, .ref h), (1, .int w), (2, .int k), (3, .int n), (4, .int v), (5, .int q)]) hx hb dX8_late_64 hl (by decide) rfl (fun ls hl => ?_)
            refine lv_lconst (v := 1) hx hb dX8_late_66 (by decide) ?_
            refine lv_lstore (lv' := [(8, .long 1), (6, .long 0), (0, .ref h), (1, .int w), (2, .int k), (3, .int n), (4, .int v), (5, .int q)]) hx hb dX8_late_67 hl (by decide) rfl (fun ls hl => ?_)
            refine lv_lconst (v := 1) hx hb dX8_late_69 (by decide) ?_
            refine lv_lstore (lv' := [(10, .long 1), (8, .long 1), (6, .long 0), (0, .ref h), (1, .int w), (2, .int k), (3, .int n), (4, .int v), (5, .int q)]) hx hb dX8_late_70 hl (by decide) rfl (fun ls hl => ?_)
            refine lv_iconst (v := 0) hx hb dX8_late_72 (by decide) ?_
            refine lv_istore (lv' := [(12, .int 0), (10, .long 1), (8, .long 1), (6, .long 0), (0, .ref h), (1, .int w), (2, .int k), (3, .int n), (4, .int v), (5, .int q)]) hx hb dX8_late_73 hl (by decide) rfl (fun ls hl => ?_)
            have hL75 : ∀ (nf : Nat) (t12_c75 : Int32) (t10_c75 : Int64) (t8_c75 : Int64) (t6_c75 : Int64) (g0_c75 : Nat → Int32) (H : Heap) (locs : List Loc) (ls : Array Slot), (0 ≤ t12_c75.toInt ∧ t12_c75.toInt ≤ 7) → (1 ≤ t8_c75.toInt ∧ t8_c75.toInt ≤ 10000000) → (SI g0_c75 v0) → ((t12_c75.toInt = 0 → t8_c75.toInt ≤ 1) ∧ (t12_c75.toInt = 1 → t8_c75.toInt ≤ 10) ∧ (t12_c75.toInt = 2 → t8_c75.toInt ≤ 100) ∧ (t12_c75.toInt = 3 → t8_c75.toInt ≤ 1000) ∧ (t12_c75.toInt = 4 → t8_c75.toInt ≤ 10000) ∧ (t12_c75.toInt = 5 → t8_c75.toInt ≤ 100000) ∧ (t12_c75.toInt = 6 → t8_c75.toInt ≤ 1000000) ∧ (t12_c75.toInt = 7 → t8_c75.toInt ≤ 10000000)) → (FRM (1539) (1596) sf g0_c75) → (7 - t12_c75.toInt).toNat < nf → va_P D kl [(h, .inr (7, [.ref sl, .int na, .ref zs, .ref ln, .ref ir, .ref tk, .int su, .int le, .ref tb, .int fu, .int ap, .int pp, .ref tr, .int tc, .ref fz, .int nm])), (sl, .inl (cI, 1653, .inl g0_c75))] H → va_D A [(h, .inr (7, [.ref sl, .int na, .ref zs, .ref ln, .ref ir, .ref tk, .int su, .int le, .ref tb, .int fu, .int ap, .int pp, .ref tr, .int tc, .ref fz, .int nm])), (sl, .inl (cI, 1653, .inl g0_c75))] → va_S A s.heap H locs → lv_has ls 18 [(12, .int t12_c75), (10, .long t10_c75), (8, .long t8_c75), (6, .long t6_c75), (0, .ref h), (1, .int w), (2, .int k), (3, .int n), (4, .int v), (5, .int q)] → W p l e ({ frames := 5, cells := 0, slots := 0, locals := 122 }) s m ([.ref h, .int w, .int k, .int n, .int v, .int q] : List Value).toArray below meth c H locs 0 0 (MQ below (va_Ql (fun (r : Int64) (u : (Nat → Int32)) => (FRM (1539) (1596) sf u) ∧ (SI u v0)) (fun u t => wb D A ((fun u => [(h, .inr (7, [.ref sl, .int na, .ref zs, .ref ln, .ref ir, .ref tk, .int su, .int le, .ref tb, .int fu, .int ap, .int pp, .ref tr, .int tc, .ref fz, .int nm])), (sl, .inl (cI, 1653, .inl u))]) u) t) A) ([.ref h, .int w, .int k, .int n, .int v, .int q] : List Value).toArray s 0 0 A) (F0 m 75 ls []) := by
              intro nf
              induction nf with
              | zero =>
                intro t12_c75 t10_c75 t8_c75 t6_c75 g0_c75 H locs ls i_t12_c75 i_t8_c75 ha_g0_c75 j0_c75 hf_c75 hm
                exact absurd hm (Nat.not_lt_zero _)
              | succ nf ih75 =>
                intro t12_c75 t10_c75 t8_c75 t6_c75 g0_c75 H locs ls i_t12_c75 i_t8_c75 ha_g0_c75 j0_c75 hf_c75 hm75 hP hD hS hl
                refine lv_iload hx hb dX8_late_75 (lv_at hl 0 rfl) ?_
                refine lv_iload_n hx hb dX8_late_77 rfl (lv_at hl 7 rfl) ?_
                refine lv_icmp_gt (tgt := 195) hx hb dX8_late_78 (by decide) (fun c_7 => ?_) (fun c_7 => ?_)
                · have f_7 : n.toInt < t12_c75.toInt := zi_lt c_7
                  refine lv_lload hx hb dX8_late_195 (lv_at hl 3 rfl) ?_
                  refine lv_lstore (lv' := [(12, .long t6_c75), (10, .long t10_c75), (8, .long t8_c75), (6, .long t6_c75), (0, .ref h), (1, .int w), (2, .int k), (3, .int n), (4, .int v), (5, .int q)]) hx hb dX8_late_197 hl (by decide) rfl (fun ls hl => ?_)
                  refine lv_lload hx hb dX8_late_199 (lv_at hl 2 rfl) ?_
                  refine lv_lstore (lv' := [(14, .long t8_c75), (12, .long t6_c75), (10, .long t10_c75), (8, .long t8_c75), (6, .long t6_c75), (0, .ref h), (1, .int w), (2, .int k), (3, .int n), (4, .int v), (5, .int q)]) hx hb dX8_late_201 hl (by decide) rfl (fun ls hl => ?_)
                  have hL203 : ∀ (nf : Nat) (t14_c203 : Int64) (t12_c203 : Int64) (H : Heap) (locs : List Loc) (ls : Array Slot), (¬ (t12_c203.toInt = 0 ∧ t14_c203.toInt = 0)) → (t14_c203.toInt).natAbs < nf → va_P D kl [(h, .inr (7, [.ref sl, .int na, .ref zs, .ref ln, .ref ir, .ref tk, .int su, .int le, .ref tb, .int fu, .int ap, .int pp, .ref tr, .int tc, .ref fz, .int nm])), (sl, .inl (cI, 1653, .inl g0_c75))] H → va_D A [(h, .inr (7, [.ref sl, .int na, .ref zs, .ref ln, .ref ir, .ref tk, .int su, .int le, .ref tb, .int fu, .int ap, .int pp, .ref tr, .int tc, .ref fz, .int nm])), (sl, .inl (cI, 1653, .inl g0_c75))] → va_S A s.heap H locs → lv_has ls 18 [(14, .long t14_c203), (12, .long t12_c203), (10, .long t10_c75), (8, .long t8_c75), (6, .long t6_c75), (0, .ref h), (1, .int w), (2, .int k), (3, .int n), (4, .int v), (5, .int q)] → W p l e ({ frames := 5, cells := 0, slots := 0, locals := 122 }) s m ([.ref h, .int w, .int k, .int n, .int v, .int q] : List Value).toArray below meth c H locs 0 0 (MQ below (va_Ql (fun (r : Int64) (u : (Nat → Int32)) => (FRM (1539) (1596) sf u) ∧ (SI u v0)) (fun u t => wb D A ((fun u => [(h, .inr (7, [.ref sl, .int na, .ref zs, .ref ln, .ref ir, .ref tk, .int su, .int le, .ref tb, .int fu, .int ap, .int pp, .ref tr, .int tc, .ref fz, .int nm])), (sl, .inl (cI, 1653, .inl u))]) u) t) A) ([.ref h, .int w, .int k, .int n, .int v, .int q] : List Value).toArray s 0 0 A) (F0 m 203 ls []) := by
                    intro nf
                    induction nf with
                    | zero =>
                      intro t14_c203 t12_c203 H locs ls j0_c203 hm
                      exact absurd hm (Nat.not_lt_zero _)
                    | succ nf ih203 =>
                      intro t14_c203 t12_c203 H locs ls j0_c203 hm203 hP hD hS hl
                      refine lv_lload hx hb dX8_late_203 (lv_at hl 0 rfl) ?_
                      refine lv_lconst (v := 0) hx hb dX8_late_205 (by decide) ?_
                      refine W.lcmp hx hb dX8_late_206 ?_
                      refine lv_topi (fun x_8 ex_8 => ?_)
                      rcases zc_cases t14_c203 0 with ⟨h1, f_8⟩ | ⟨h1, f_8⟩ | ⟨h1, f_8⟩
                      · obtain rfl : x_8 = 1 := ex_8.trans h1
                        have f_8 : 0 < t14_c203.toInt := f_8
                        refine lv_if_eq (tgt := 228) hx hb dX8_late_207 (by decide) (fun c9 => absurd c9 (by decide)) (fun _ => ?_)
                        refine lv_lload hx hb dX8_late_210 (lv_at hl 1 rfl) ?_
                        refine lv_lload hx hb dX8_late_212 (lv_at hl 0 rfl) ?_
                        refine lv_lrem hx hb dX8_late_214 (zl_nz (by omega)) ?_
                        refine lv_topl (fun x_9 ex_9 => ?_)
                        have e_9 : x_9.toInt.natAbs < t14_c203.toInt.natAbs := by rw [ex_9]; exact zl_rem (by omega)
                        clear ex_9
                        refine lv_lstore (lv' := [(16, .long x_9), (14, .long t14_c203), (12, .long t12_c203), (10, .long t10_c75), (8, .long t8_c75), (6, .long t6_c75), (0, .ref h), (1, .int w), (2, .int k), (3, .int n), (4, .int v), (5, .int q)]) hx hb dX8_late_215 hl (by decide) rfl (fun ls hl => ?_)
                        refine lv_lload hx hb dX8_late_217 (lv_at hl 1 rfl) ?_
                        refine lv_lstore (lv' := [(12, .long t14_c203), (16, .long x_9), (14, .long t14_c203), (10, .long t10_c75), (8, .long t8_c75), (6, .long t6_c75), (0, .ref h), (1, .int w), (2, .int k), (3, .int n), (4, .int v), (5, .int q)]) hx hb dX8_late_219 hl (by decide) rfl (fun ls hl => ?_)
                        refine lv_lload hx hb dX8_late_221 (lv_at hl 1 rfl) ?_
                        refine lv_lstore (lv' := [(14, .long x_9), (12, .long t14_c203), (16, .long x_9), (10, .long t10_c75), (8, .long t8_c75), (6, .long t6_c75), (0, .ref h), (1, .int w), (2, .int k), (3, .int n), (4, .int v), (5, .int q)]) hx hb dX8_late_223 hl (by decide) rfl (fun ls hl => ?_)
                        refine lv_goto (tgt := 203) hx hb dX8_late_225 (by decide) ?_
                        exact ih203 x_9 t14_c203 _ _ _ (show ¬ (t14_c203.toInt = 0 ∧ x_9.toInt = 0) from by omega) (by omega) (hP.sub [0, 1] rfl) (hD.sub [0, 1] (by decide) rfl) hS (lv_sub hl [0, 1, 3, 4, 5, 6, 7, 8, 9, 10, 11] rfl)
                      · obtain rfl : x_8 = 0 := ex_8.trans h1
                        have f_8 : t14_c203.toInt = 0 := f_8
                        refine lv_if_eq (tgt := 228) hx hb dX8_late_207 (by decide) (fun _ => ?_) (fun c9 => absurd (by decide) c9)
                        refine lv_iload hx hb dX8_late_228 (lv_at hl 10 rfl) ?_
                        refine lv_if_ne (tgt := 241) hx hb dX8_late_230 (by decide) (fun c_10 => ?_) (fun c_10 => ?_)
                        · have f_10 : ¬ q.toInt = 0 := zi_ne c_10
                          refine lv_lload hx hb dX8_late_241 (lv_at hl 3 rfl) ?_
                          refine lv_lload hx hb dX8_late_243 (lv_at hl 1 rfl) ?_
                          refine lv_ldiv hx hb dX8_late_245 (zl_nz (by omega)) ?_
                          refine lv_topl (fun x_11 ex_11 => ?_)
                          clear ex_11
                          exact wr_l (v := x_11) hx hb hr hlocks hS g0_c75 (by exact ⟨show FRM (1539) (1596) sf g0_c75 from hf_c75, ha_g0_c75⟩) (hP.sub [0, 1] rfl) (hD.sub [0, 1] (by decide) rfl) dX8_late_246
                        · have f_10 : q.toInt = 0 := zi_eq c_10
                          refine lv_lload hx hb dX8_late_233 (lv_at hl 4 rfl) ?_
                          refine lv_lload hx hb dX8_late_235 (lv_at hl 1 rfl) ?_
                          refine lv_ldiv hx hb dX8_late_237 (zl_nz (by omega)) ?_
                          refine lv_topl (fun x_12 ex_12 => ?_)
                          clear ex_12
                          refine lv_goto (tgt := 246) hx hb dX8_late_238 (by decide) ?_
                          exact wr_l (v := x_12) hx hb hr hlocks hS g0_c75 (by exact ⟨show FRM (1539) (1596) sf g0_c75 from hf_c75, ha_g0_c75⟩) (hP.sub [0, 1] rfl) (hD.sub [0, 1] (by decide) rfl) dX8_late_246
                      · obtain rfl : x_8 = (-1) := ex_8.trans h1
                        have f_8 : t14_c203.toInt < 0 := f_8
                        refine lv_if_eq (tgt := 228) hx hb dX8_late_207 (by decide) (fun c9 => absurd c9 (by decide)) (fun _ => ?_)
                        refine lv_lload hx hb dX8_late_210 (lv_at hl 1 rfl) ?_
                        refine lv_lload hx hb dX8_late_212 (lv_at hl 0 rfl) ?_
                        refine lv_lrem hx hb dX8_late_214 (zl_nz (by omega)) ?_
                        refine lv_topl (fun x_13 ex_13 => ?_)
                        have e_13 : x_13.toInt.natAbs < t14_c203.toInt.natAbs := by rw [ex_13]; exact zl_rem (by omega)
                        clear ex_13
                        refine lv_lstore (lv' := [(16, .long x_13), (14, .long t14_c203), (12, .long t12_c203), (10, .long t10_c75), (8, .long t8_c75), (6, .long t6_c75), (0, .ref h), (1, .int w), (2, .int k), (3, .int n), (4, .int v), (5, .int q)]) hx hb dX8_late_215 hl (by decide) rfl (fun ls hl => ?_)
                        refine lv_lload hx hb dX8_late_217 (lv_at hl 1 rfl) ?_
                        refine lv_lstore (lv' := [(12, .long t14_c203), (16, .long x_13), (14, .long t14_c203), (10, .long t10_c75), (8, .long t8_c75), (6, .long t6_c75), (0, .ref h), (1, .int w), (2, .int k), (3, .int n), (4, .int v), (5, .int q)]) hx hb dX8_late_219 hl (by decide) rfl (fun ls hl => ?_)
                        refine lv_lload hx hb dX8_late_221 (lv_at hl 1 rfl) ?_
                        refine lv_lstore (lv' := [(14, .long x_13), (12, .long t14_c203), (16, .long x_13), (10, .long t10_c75), (8, .long t8_c75), (6, .long t6_c75), (0, .ref h), (1, .int w), (2, .int k), (3, .int n), (4, .int v), (5, .int q)]) hx hb dX8_late_223 hl (by decide) rfl (fun ls hl => ?_)
                        refine lv_goto (tgt := 203) hx hb dX8_late_225 (by decide) ?_
                        exact ih203 x_13 t14_c203 _ _ _ (show ¬ (t14_c203.toInt = 0 ∧ x_13.toInt = 0) from by omega) (by omega) (hP.sub [0, 1] rfl) (hD.sub [0, 1] (by decide) rfl) hS (lv_sub hl [0, 1, 3, 4, 5, 6, 7, 8, 9, 10, 11] rfl)
                  exact hL203 ((((t8_c75 : Int64).toInt).natAbs) + 1) t8_c75 t6_c75 _ _ _ (show ¬ (t6_c75.toInt = 0 ∧ t8_c75.toInt = 0) from by omega) (Nat.lt_succ_self _) (hP.sub [0, 1] rfl) (hD.sub [0, 1] (by decide) rfl) hS (lv_sub hl [0, 1, 2, 3, 4, 5, 6, 7, 8, 9, 10] rfl)
                · have f_7 : ¬ n.toInt < t12_c75.toInt := zi_nlt c_7
                  refine lv_lload hx hb dX8_late_81 (lv_at hl 1 rfl) ?_
                  refine lv_lstore (lv' := [(13, .long t10_c75), (12, .int t12_c75), (10, .long t10_c75), (8, .long t8_c75), (6, .long t6_c75), (0, .ref h), (1, .int w), (2, .int k), (3, .int n), (4, .int v), (5, .int q)]) hx hb dX8_late_83 hl (by decide) rfl (fun ls hl => ?_)
                  refine lv_iconst (v := 0) hx hb dX8_late_85 (by decide) ?_
                  refine lv_istore (lv' := [(15, .int 0), (13, .long t10_c75), (12, .int t12_c75), (10, .long t10_c75), (8, .long t8_c75), (6, .long t6_c75), (0, .ref h), (1, .int w), (2, .int k), (3, .int n), (4, .int v), (5, .int q)]) hx hb dX8_late_86 hl (by decide) rfl (fun ls hl => ?_)
                  have hL88 : ∀ (nf : Nat) (t15_c88 : Int32) (t13_c88 : Int64) (H : Heap) (locs : List Loc) (ls : Array Slot), (0 ≤ t15_c88.toInt ∧ t15_c88.toInt ≤ 6) → (n.toInt - t15_c88.toInt).toNat < nf → va_P D kl [(h, .inr (7, [.ref sl, .int na, .ref zs, .ref ln, .ref ir, .ref tk, .int su, .int le, .ref tb, .int fu, .int ap, .int pp, .ref tr, .int tc, .ref fz, .int nm])), (sl, .inl (cI, 1653, .inl g0_c75))] H → va_D A [(h, .inr (7, [.ref sl, .int na, .ref zs, .ref ln, .ref ir, .ref tk, .int su, .int le, .ref tb, .int fu, .int ap, .int pp, .ref tr, .int tc, .ref fz, .int nm])), (sl, .inl (cI, 1653, .inl g0_c75))] → va_S A s.heap H locs → lv_has ls 18 [(15, .int t15_c88), (13, .long t13_c88), (12, .int t12_c75), (10, .long t10_c75), (8, .long t8_c75), (6, .long t6_c75), (0, .ref h), (1, .int w), (2, .int k), (3, .int n), (4, .int v), (5, .int q)] → W p l e ({ frames := 5, cells := 0, slots := 0, locals := 122 }) s m ([.ref h, .int w, .int k, .int n, .int v, .int q] : List Value).toArray below meth c H locs 0 0 (MQ below (va_Ql (fun (r : Int64) (u : (Nat → Int32)) => (FRM (1539) (1596) sf u) ∧ (SI u v0)) (fun u t => wb D A ((fun u => [(h, .inr (7, [.ref sl, .int na, .ref zs, .ref ln, .ref ir, .ref tk, .int su, .int le, .ref tb, .int fu, .int ap, .int pp, .ref tr, .int tc, .ref fz, .int nm])), (sl, .inl (cI, 1653, .inl u))]) u) t) A) ([.ref h, .int w, .int k, .int n, .int v, .int q] : List Value).toArray s 0 0 A) (F0 m 88 ls []) := by
                    intro nf
                    induction nf with
                    | zero =>
                      intro t15_c88 t13_c88 H locs ls i_t15_c88 hm
                      exact absurd hm (Nat.not_lt_zero _)
                    | succ nf ih88 =>
                      intro t15_c88 t13_c88 H locs ls i_t15_c88 hm88 hP hD hS hl
                      refine lv_iload hx hb dX8_late_88 (lv_at hl 0 rfl) ?_
                      refine lv_iload_n hx hb dX8_late_90 rfl (lv_at hl 9 rfl) ?_
                      refine lv_icmp_ge (tgt := 122) hx hb dX8_late_91 (by decide) (fun c_14 => ?_) (fun c_14 => ?_)
                      · have f_14 : n.toInt ≤ t15_c88.toInt := zi_le c_14
                        refine lv_lload hx hb dX8_late_122 (lv_at hl 5 rfl) ?_
                        refine lv_aload_n hx hb dX8_late_124 rfl (lv_at hl 6 rfl) ?_
                        refine va_get (D := D) (ci := 7) (v := .ref sl) (C := RX8) (T := TX8) (N := 16) hx hb hts (fun _ h => List.mem_cons_of_mem _ (List.mem_append_right _ h)) hown hK hP 0 rfl rfl 0 (by decide) (hts (.fieldLink RX8 7 "WinterWalkModel" "slot" "[I") (List.mem_of_getElem? (i := 4) rfl)) (fun _ h9 => h9) rfl dX8_late_125 ?_
                        refine lv_sipush (v := 1587) hx hb dX8_late_128 (by decide) ?_
                        refine lv_iload_n hx hb dX8_late_131 rfl (lv_at hl 7 rfl) ?_
                        refine lv_iadd hx hb dX8_late_132 ?_
                        refine lv_topi (fun x_15 ex_15 => ?_)
                        have e_15 : x_15.toInt = 1587 + w.toInt := by rw [ex_15]; exact zi_add (by decide) (rfl) (by omega) (by omega)
                        clear ex_15
                        refine va_iald hx hb hK hP 1 0 rfl rfl (zi_in (by omega) (by omega)) dX8_late_133 ?_
                        refine lv_topi (fun x_16 ex_16 => ?_)
                        have f_16 : 0 ≤ x_16.toInt ∧ x_16.toInt ≤ 7 := by rw [ex_16]; exact si_a ha_g0_c75 (s := 27) (k := w.toInt) (by omega) (by omega) (by omega)
                        clear ex_16
                        refine lv_iload hx hb dX8_late_134 (lv_at hl 10 rfl) ?_
                        refine lv_icmp_ne (tgt := 144) hx hb dX8_late_136 (by decide) (fun c_17 => ?_) (fun c_17 => ?_)
                        · have f_17 : ¬ x_16.toInt = v.toInt := zi_ne c_17
                          refine lv_lconst (v := 0) hx hb dX8_late_144 (by decide) ?_
                          refine lv_ladd hx hb dX8_late_145 ?_
                          refine lv_topl (fun x_18 ex_18 => ?_)
                          clear ex_18
                          refine lv_lstore (lv' := [(6, .long x_18), (15, .int t15_c88), (13, .long t13_c88), (12, .int t12_c75), (10, .long t10_c75), (8, .long t8_c75), (0, .ref h), (1, .int w), (2, .int k), (3, .int n), (4, .int v), (5, .int q)]) hx hb dX8_late_146 hl (by decide) rfl (fun ls hl => ?_)
                          refine lv_lload hx hb dX8_late_148 (lv_at hl 5 rfl) ?_
                          refine lv_iload hx hb dX8_late_150 (lv_at hl 3 rfl) ?_
                          refine lv_iload_n hx hb dX8_late_152 rfl (lv_at hl 9 rfl) ?_
                          refine lv_icmp_ge (tgt := 162) hx hb dX8_late_153 (by decide) (fun c_19 => ?_) (fun c_19 => ?_)
                          · have f_19 : n.toInt ≤ t12_c75.toInt := zi_le c_19
                            refine lv_lconst (v := 1) hx hb dX8_late_162 (by decide) ?_
                            refine lv_lmul hx hb dX8_late_163 ?_
                            refine lv_topl (fun x_20 ex_20 => ?_)
                            have e_20 : x_20.toInt = t8_c75.toInt * 1 := by rw [ex_20]; exact zl_mul rfl (by decide) (by omega) (by omega)
                            clear ex_20
                            refine lv_lstore (lv' := [(8, .long x_20), (6, .long x_18), (15, .int t15_c88), (13, .long t13_c88), (12, .int t12_c75), (10, .long t10_c75), (0, .ref h), (1, .int w), (2, .int k), (3, .int n), (4, .int v), (5, .int q)]) hx hb dX8_late_164 hl (by decide) rfl (fun ls hl => ?_)
                            refine lv_lload hx hb dX8_late_166 (lv_at hl 5 rfl) ?_
                            refine lv_iload_n hx hb dX8_late_168 rfl (lv_at hl 9 rfl) ?_
                            refine lv_iload hx hb dX8_late_169 (lv_at hl 4 rfl) ?_
                            refine lv_isub hx hb dX8_late_171 ?_
                            refine lv_topi (fun x_21 ex_21 => ?_)
                            have e_21 : x_21.toInt = n.toInt - t12_c75.toInt := by rw [ex_21]; exact zi_sub (rfl) (rfl) (by omega) (by omega)
                            clear ex_21
                            refine lv_i2l (v := (x_21.toInt64)) hx hb dX8_late_172 rfl ?_
                            refine lv_lmul hx hb dX8_late_173 ?_
                            refine lv_topl (fun x_22 ex_22 => ?_)
                            clear ex_22
                            refine lv_iload hx hb dX8_late_174 (lv_at hl 4 rfl) ?_
                            refine lv_iconst (v := 1) hx hb dX8_late_176 (by decide) ?_
                            refine lv_iadd hx hb dX8_late_177 ?_
                            refine lv_topi (fun x_23 ex_23 => ?_)
                            have e_23 : x_23.toInt = t12_c75.toInt + 1 := by rw [ex_23]; exact zi_add (rfl) (by decide) (by omega) (by omega)
                            clear ex_23
                            refine lv_i2l (v := (x_23.toInt64)) hx hb dX8_late_178 rfl ?_
                            refine lv_ldiv hx hb dX8_late_179 (zl_nz (by rw [zl_of]; omega)) ?_
                            refine lv_topl (fun x_24 ex_24 => ?_)
                            clear ex_24
                            refine lv_lstore (lv' := [(10, .long x_24), (8, .long x_20), (6, .long x_18), (15, .int t15_c88), (13, .long t13_c88), (12, .int t12_c75), (0, .ref h), (1, .int w), (2, .int k), (3, .int n), (4, .int v), (5, .int q)]) hx hb dX8_late_180 hl (by decide) rfl (fun ls hl => ?_)
                            refine lv_aload_n hx hb dX8_late_182 rfl (lv_at hl 6 rfl) ?_
                            refine lv_bipush (v := 27) hx hb dX8_late_183 (by decide) ?_
                            refine lv_iload_n hx hb dX8_late_185 rfl (lv_at hl 7 rfl) ?_
                            have k_25 := (f_X8_day l D cI cB cQ H.size h sl zs ln ir tk tb tr fz na su le fu ap pp tc nm 27 w g0_c75 v0 ha_g0_c75 ⟨by decide, by decide⟩)
                            refine wc_v (WC := [(h, .inr (7, [.ref sl, .int na, .ref zs, .ref ln, .ref ir, .ref tk, .int su, .int le, .ref tb, .int fu, .int ap, .int pp, .ref tr, .int tc, .ref fz, .int nm])), (sl, .inl (cI, 1653, .inl g0_c75))]) (WR := []) (va_runV (As := [.int 27, .int w]) (rest := []) ⟨hx, hb, hml, hown, hts⟩ k_25 (cwV 2 hts gX8_late_X8_day rfl rfl rfl (by decide +kernel) ⟨Nat.le_of_ble_eq_true rfl, Nat.le_of_ble_eq_true rfl⟩) (wp_V hP hK hD hN [0, 1] (by decide) rfl (ci := 7) rfl rfl) rfl rfl hl.1 rfl (lv_room (Nat.le_of_ble_eq_true rfl)) dX8_late_186 ⟨Nat.le_of_ble_eq_true rfl, Nat.le_of_ble_eq_true rfl⟩) hP hD hS hA [0, 1] [] rfl rfl (by decide) (by decide) (fun u_25 H locs hw_25 hP hD hS => ?_)
                            clear k_25
                            have hP : va_P D kl [(h, .inr (7, [.ref sl, .int na, .ref zs, .ref ln, .ref ir, .ref tk, .int su, .int le, .ref tb, .int fu, .int ap, .int pp, .ref tr, .int tc, .ref fz, .int nm])), (sl, .inl (cI, 1653, .inl u_25))] H := hP
                            have hD : va_D A [(h, .inr (7, [.ref sl, .int na, .ref zs, .ref ln, .ref ir, .ref tk, .int su, .int le, .ref tb, .int fu, .int ap, .int pp, .ref tr, .int tc, .ref fz, .int nm])), (sl, .inl (cI, 1653, .inl u_25))] := hD
                            obtain ⟨c25_0, c25_1⟩ := hw_25
                            have c25_0 : FRM (57 * (27 : Int) + 31) (57 * (27 : Int) + 57) g0_c75 u_25 := c25_0
                            have c25_1 : SI u_25 v0 := c25_1
                            have hf_25 : FRM (1539) (1596) sf u_25 := FRM.trans hf_c75 (FRM.sub c25_0 (by omega) (by omega))
                            obtain ⟨x_26, ex_26⟩ : ∃ y : Int32, y = t12_c75 + Int32.ofInt 1 := ⟨_, rfl⟩
                            refine lv_iinc (v := x_26) (lv' := [(12, .int x_26), (10, .long x_24), (8, .long x_20), (6, .long x_18), (15, .int t15_c88), (13, .long t13_c88), (0, .ref h), (1, .int w), (2, .int k), (3, .int n), (4, .int v), (5, .int q)]) hx hb dX8_late_189 hl (k := 5) rfl ex_26.symm (by decide) rfl (fun ls hl => ?_)
                            have ex_26 : x_26 = t12_c75 + 1 := ex_26
                            have e_26 : x_26.toInt = t12_c75.toInt + 1 := by rw [ex_26]; exact zi_add (rfl) (by decide) (by omega) (by omega)
                            clear ex_26
                            refine lv_goto (tgt := 75) hx hb dX8_late_192 (by decide) ?_
                            exact ih75 x_26 x_24 x_20 x_18 u_25 _ _ _ (show 0 ≤ x_26.toInt ∧ x_26.toInt ≤ 7 from by omega) (show 1 ≤ x_20.toInt ∧ x_20.toInt ≤ 10000000 from by omega) c25_1 (show (x_26.toInt = 0 → x_20.toInt ≤ 1) ∧ (x_26.toInt = 1 → x_20.toInt ≤ 10) ∧ (x_26.toInt = 2 → x_20.toInt ≤ 100) ∧ (x_26.toInt = 3 → x_20.toInt ≤ 1000) ∧ (x_26.toInt = 4 → x_20.toInt ≤ 10000) ∧ (x_26.toInt = 5 → x_20.toInt ≤ 100000) ∧ (x_26.toInt = 6 → x_20.toInt ≤ 1000000) ∧ (x_26.toInt = 7 → x_20.toInt ≤ 10000000) from by omega) hf_25 (by omega) (hP.sub [0, 1] rfl) (hD.sub [0, 1] (by decide) rfl) hS (lv_sub hl [0, 1, 2, 3, 6, 7, 8, 9, 10, 11] rfl)
                          · have f_19 : ¬ n.toInt ≤ t12_c75.toInt := zi_nle c_19
                            refine lv_ldc2 (v := 10) hx hb hown (hts (.constantLong RX8 193 (10)) (List.mem_of_getElem? (i := 1) rfl)) dX8_late_156 ?_
                            refine lv_goto (tgt := 163) hx hb dX8_late_159 (by decide) ?_
                            refine lv_lmul hx hb dX8_late_163 ?_
                            refine lv_topl (fun x_27 ex_27 => ?_)
                            have e_27 : x_27.toInt = t8_c75.toInt * 10 := by rw [ex_27]; exact zl_mul rfl (by decide) (by omega) (by omega)
                            clear ex_27
                            refine lv_lstore (lv' := [(8, .long x_27), (6, .long x_18), (15, .int t15_c88), (13, .long t13_c88), (12, .int t12_c75), (10, .long t10_c75), (0, .ref h), (1, .int w), (2, .int k), (3, .int n), (4, .int v), (5, .int q)]) hx hb dX8_late_164 hl (by decide) rfl (fun ls hl => ?_)
                            refine lv_lload hx hb dX8_late_166 (lv_at hl 5 rfl) ?_
                            refine lv_iload_n hx hb dX8_late_168 rfl (lv_at hl 9 rfl) ?_
                            refine lv_iload hx hb dX8_late_169 (lv_at hl 4 rfl) ?_
                            refine lv_isub hx hb dX8_late_171 ?_
                            refine lv_topi (fun x_28 ex_28 => ?_)
                            have e_28 : x_28.toInt = n.toInt - t12_c75.toInt := by rw [ex_28]; exact zi_sub (rfl) (rfl) (by omega) (by omega)
                            clear ex_28
                            refine lv_i2l (v := (x_28.toInt64)) hx hb dX8_late_172 rfl ?_
                            refine lv_lmul hx hb dX8_late_173 ?_
                            refine lv_topl (fun x_29 ex_29 => ?_)
                            clear ex_29
                            refine lv_iload hx hb dX8_late_174 (lv_at hl 4 rfl) ?_
                            refine lv_iconst (v := 1) hx hb dX8_late_176 (by decide) ?_
                            refine lv_iadd hx hb dX8_late_177 ?_
                            refine lv_topi (fun x_30 ex_30 => ?_)
                            have e_30 : x_30.toInt = t12_c75.toInt + 1 := by rw [ex_30]; exact zi_add (rfl) (by decide) (by omega) (by omega)
                            clear ex_30
                            refine lv_i2l (v := (x_30.toInt64)) hx hb dX8_late_178 rfl ?_
                            refine lv_ldiv hx hb dX8_late_179 (zl_nz (by rw [zl_of]; omega)) ?_
                            refine lv_topl (fun x_31 ex_31 => ?_)
                            clear ex_31
                            refine lv_lstore (lv' := [(10, .long x_31), (8, .long x_27), (6, .long x_18), (15, .int t15_c88), (13, .long t13_c88), (12, .int t12_c75), (0, .ref h), (1, .int w), (2, .int k), (3, .int n), (4, .int v), (5, .int q)]) hx hb dX8_late_180 hl (by decide) rfl (fun ls hl => ?_)
                            refine lv_aload_n hx hb dX8_late_182 rfl (lv_at hl 6 rfl) ?_
                            refine lv_bipush (v := 27) hx hb dX8_late_183 (by decide) ?_
                            refine lv_iload_n hx hb dX8_late_185 rfl (lv_at hl 7 rfl) ?_
                            have k_32 := (f_X8_day l D cI cB cQ H.size h sl zs ln ir tk tb tr fz na su le fu ap pp tc nm 27 w g0_c75 v0 ha_g0_c75 ⟨by decide, by decide⟩)
                            refine wc_v (WC := [(h, .inr (7, [.ref sl, .int na, .ref zs, .ref ln, .ref ir, .ref tk, .int su, .int le, .ref tb, .int fu, .int ap, .int pp, .ref tr, .int tc, .ref fz, .int nm])), (sl, .inl (cI, 1653, .inl g0_c75))]) (WR := []) (va_runV (As := [.int 27, .int w]) (rest := []) ⟨hx, hb, hml, hown, hts⟩ k_32 (cwV 2 hts gX8_late_X8_day rfl rfl rfl (by decide +kernel) ⟨Nat.le_of_ble_eq_true rfl, Nat.le_of_ble_eq_true rfl⟩) (wp_V hP hK hD hN [0, 1] (by decide) rfl (ci := 7) rfl rfl) rfl rfl hl.1 rfl (lv_room (Nat.le_of_ble_eq_true rfl)) dX8_late_186 ⟨Nat.le_of_ble_eq_true rfl, Nat.le_of_ble_eq_true rfl⟩) hP hD hS hA [0, 1] [] rfl rfl (by decide) (by decide) (fun u_32 H locs hw_32 hP hD hS => ?_)
                            clear k_32
                            have hP : va_P D kl [(h, .inr (7, [.ref sl, .int na, .ref zs, .ref ln, .ref ir, .ref tk, .int su, .int le, .ref tb, .int fu, .int ap, .int pp, .ref tr, .int tc, .ref fz, .int nm])), (sl, .inl (cI, 1653, .inl u_32))] H := hP
                            have hD : va_D A [(h, .inr (7, [.ref sl, .int na, .ref zs, .ref ln, .ref ir, .ref tk, .int su, .int le, .ref tb, .int fu, .int ap, .int pp, .ref tr, .int tc, .ref fz, .int nm])), (sl, .inl (cI, 1653, .inl u_32))] := hD
                            obtain ⟨c32_0, c32_1⟩ := hw_32
                            have c32_0 : FRM (57 * (27 : Int) + 31) (57 * (27 : Int) + 57) g0_c75 u_32 := c32_0
                            have c32_1 : SI u_32 v0 := c32_1
                            have hf_32 : FRM (1539) (1596) sf u_32 := FRM.trans hf_c75 (FRM.sub c32_0 (by omega) (by omega))
                            obtain ⟨x_33, ex_33⟩ : ∃ y : Int32, y = t12_c75 + Int32.ofInt 1 := ⟨_, rfl⟩
                            refine lv_iinc (v := x_33) (lv' := [(12, .int x_33), (10, .long x_31), (8, .long x_27), (6, .long x_18), (15, .int t15_c88), (13, .long t13_c88), (0, .ref h), (1, .int w), (2, .int k), (3, .int n), (4, .int v), (5, .int q)]) hx hb dX8_late_189 hl (k := 5) rfl ex_33.symm (by decide) rfl (fun ls hl => ?_)
                            have ex_33 : x_33 = t12_c75 + 1 := ex_33
                            have e_33 : x_33.toInt = t12_c75.toInt + 1 := by rw [ex_33]; exact zi_add (rfl) (by decide) (by omega) (by omega)
                            clear ex_33
                            refine lv_goto (tgt := 75) hx hb dX8_late_192 (by decide) ?_
                            exact ih75 x_33 x_31 x_27 x_18 u_32 _ _ _ (show 0 ≤ x_33.toInt ∧ x_33.toInt ≤ 7 from by omega) (show 1 ≤ x_27.toInt ∧ x_27.toInt ≤ 10000000 from by omega) c32_1 (show (x_33.toInt = 0 → x_27.toInt ≤ 1) ∧ (x_33.toInt = 1 → x_27.toInt ≤ 10) ∧ (x_33.toInt = 2 → x_27.toInt ≤ 100) ∧ (x_33.toInt = 3 → x_27.toInt ≤ 1000) ∧ (x_33.toInt = 4 → x_27.toInt ≤ 10000) ∧ (x_33.toInt = 5 → x_27.toInt ≤ 100000) ∧ (x_33.toInt = 6 → x_27.toInt ≤ 1000000) ∧ (x_33.toInt = 7 → x_27.toInt ≤ 10000000) from by omega) hf_32 (by omega) (hP.sub [0, 1] rfl) (hD.sub [0, 1] (by decide) rfl) hS (lv_sub hl [0, 1, 2, 3, 6, 7, 8, 9, 10, 11] rfl)
                        · have f_17 : x_16.toInt = v.toInt := zi_eq c_17
                          refine lv_lload hx hb dX8_late_139 (lv_at hl 1 rfl) ?_
                          refine lv_goto (tgt := 145) hx hb dX8_late_141 (by decide) ?_
                          refine lv_ladd hx hb dX8_late_145 ?_
                          refine lv_topl (fun x_34 ex_34 => ?_)
                          clear ex_34
                          refine lv_lstore (lv' := [(6, .long x_34), (15, .int t15_c88), (13, .long t13_c88), (12, .int t12_c75), (10, .long t10_c75), (8, .long t8_c75), (0, .ref h), (1, .int w), (2, .int k), (3, .int n), (4, .int v), (5, .int q)]) hx hb dX8_late_146 hl (by decide) rfl (fun ls hl => ?_)
                          refine lv_lload hx hb dX8_late_148 (lv_at hl 5 rfl) ?_
                          refine lv_iload hx hb dX8_late_150 (lv_at hl 3 rfl) ?_
                          refine lv_iload_n hx hb dX8_late_152 rfl (lv_at hl 9 rfl) ?_
                          refine lv_icmp_ge (tgt := 162) hx hb dX8_late_153 (by decide) (fun c_35 => ?_) (fun c_35 => ?_)
                          · have f_35 : n.toInt ≤ t12_c75.toInt := zi_le c_35
                            refine lv_lconst (v := 1) hx hb dX8_late_162 (by decide) ?_
                            refine lv_lmul hx hb dX8_late_163 ?_
                            refine lv_topl (fun x_36 ex_36 => ?_)
                            have e_36 : x_36.toInt = t8_c75.toInt * 1 := by rw [ex_36]; exact zl_mul rfl (by decide) (by omega) (by omega)
                            clear ex_36
                            refine lv_lstore (lv' := [(8, .long x_36), (6, .long x_34), (15, .int t15_c88), (13, .long t13_c88), (12, .int t12_c75), (10, .long t10_c75), (0, .ref h), (1, .int w), (2, .int k), (3, .int n), (4, .int v), (5, .int q)]) hx hb dX8_late_164 hl (by decide) rfl (fun ls hl => ?_)
                            refine lv_lload hx hb dX8_late_166 (lv_at hl 5 rfl) ?_
                            refine lv_iload_n hx hb dX8_late_168 rfl (lv_at hl 9 rfl) ?_
                            refine lv_iload hx hb dX8_late_169 (lv_at hl 4 rfl) ?_
                            refine lv_isub hx hb dX8_late_171 ?_
                            refine lv_topi (fun x_37 ex_37 => ?_)
                            have e_37 : x_37.toInt = n.toInt - t12_c75.toInt := by rw [ex_37]; exact zi_sub (rfl) (rfl) (by omega) (by omega)
                            clear ex_37
                            refine lv_i2l (v := (x_37.toInt64)) hx hb dX8_late_172 rfl ?_
                            refine lv_lmul hx hb dX8_late_173 ?_
                            refine lv_topl (fun x_38 ex_38 => ?_)
                            clear ex_38
                            refine lv_iload hx hb dX8_late_174 (lv_at hl 4 rfl) ?_
                            refine lv_iconst (v := 1) hx hb dX8_late_176 (by decide) ?_
                            refine lv_iadd hx hb dX8_late_177 ?_
                            refine lv_topi (fun x_39 ex_39 => ?_)
                            have e_39 : x_39.toInt = t12_c75.toInt + 1 := by rw [ex_39]; exact zi_add (rfl) (by decide) (by omega) (by omega)
                            clear ex_39
                            refine lv_i2l (v := (x_39.toInt64)) hx hb dX8_late_178 rfl ?_
                            refine lv_ldiv hx hb dX8_late_179 (zl_nz (by rw [zl_of]; omega)) ?_
                            refine lv_topl (fun x_40 ex_40 => ?_)
                            clear ex_40
                            refine lv_lstore (lv' := [(10, .long x_40), (8, .long x_36), (6, .long x_34), (15, .int t15_c88), (13, .long t13_c88), (12, .int t12_c75), (0, .ref h), (1, .int w), (2, .int k), (3, .int n), (4, .int v), (5, .int q)]) hx hb dX8_late_180 hl (by decide) rfl (fun ls hl => ?_)
                            refine lv_aload_n hx hb dX8_late_182 rfl (lv_at hl 6 rfl) ?_
                            refine lv_bipush (v := 27) hx hb dX8_late_183 (by decide) ?_
                            refine lv_iload_n hx hb dX8_late_185 rfl (lv_at hl 7 rfl) ?_
                            have k_41 := (f_X8_day l D cI cB cQ H.size h sl zs ln ir tk tb tr fz na su le fu ap pp tc nm 27 w g0_c75 v0 ha_g0_c75 ⟨by decide, by decide⟩)
                            refine wc_v (WC := [(h, .inr (7, [.ref sl, .int na, .ref zs, .ref ln, .ref ir, .ref tk, .int su, .int le, .ref tb, .int fu, .int ap, .int pp, .ref tr, .int tc, .ref fz, .int nm])), (sl, .inl (cI, 1653, .inl g0_c75))]) (WR := []) (va_runV (As := [.int 27, .int w]) (rest := []) ⟨hx, hb, hml, hown, hts⟩ k_41 (cwV 2 hts gX8_late_X8_day rfl rfl rfl (by decide +kernel) ⟨Nat.le_of_ble_eq_true rfl, Nat.le_of_ble_eq_true rfl⟩) (wp_V hP hK hD hN [0, 1] (by decide) rfl (ci := 7) rfl rfl) rfl rfl hl.1 rfl (lv_room (Nat.le_of_ble_eq_true rfl)) dX8_late_186 ⟨Nat.le_of_ble_eq_true rfl, Nat.le_of_ble_eq_true rfl⟩) hP hD hS hA [0, 1] [] rfl rfl (by decide) (by decide) (fun u_41 H locs hw_41 hP hD hS => ?_)
                            clear k_41
                            have hP : va_P D kl [(h, .inr (7, [.ref sl, .int na, .ref zs, .ref ln, .ref ir, .ref tk, .int su, .int le, .ref tb, .int fu, .int ap, .int pp, .ref tr, .int tc, .ref fz, .int nm])), (sl, .inl (cI, 1653, .inl u_41))] H := hP
                            have hD : va_D A [(h, .inr (7, [.ref sl, .int na, .ref zs, .ref ln, .ref ir, .ref tk, .int su, .int le, .ref tb, .int fu, .int ap, .int pp, .ref tr, .int tc, .ref fz, .int nm])), (sl, .inl (cI, 1653, .inl u_41))] := hD
                            obtain ⟨c41_0, c41_1⟩ := hw_41
                            have c41_0 : FRM (57 * (27 : Int) + 31) (57 * (27 : Int) + 57) g0_c75 u_41 := c41_0
                            have c41_1 : SI u_41 v0 := c41_1
                            have hf_41 : FRM (1539) (1596) sf u_41 := FRM.trans hf_c75 (FRM.sub c41_0 (by omega) (by omega))
                            obtain ⟨x_42, ex_42⟩ : ∃ y : Int32, y = t12_c75 + Int32.ofInt 1 := ⟨_, rfl⟩
                            refine lv_iinc (v := x_42) (lv' := [(12, .int x_42), (10, .long x_40), (8, .long x_36), (6, .long x_34), (15, .int t15_c88), (13, .long t13_c88), (0, .ref h), (1, .int w), (2, .int k), (3, .int n), (4, .int v), (5, .int q)]) hx hb dX8_late_189 hl (k := 5) rfl ex_42.symm (by decide) rfl (fun ls hl => ?_)
                            have ex_42 : x_42 = t12_c75 + 1 := ex_42
                            have e_42 : x_42.toInt = t12_c75.toInt + 1 := by rw [ex_42]; exact zi_add (rfl) (by decide) (by omega) (by omega)
                            clear ex_42
                            refine lv_goto (tgt := 75) hx hb dX8_late_192 (by decide) ?_
                            exact ih75 x_42 x_40 x_36 x_34 u_41 _ _ _ (show 0 ≤ x_42.toInt ∧ x_42.toInt ≤ 7 from by omega) (show 1 ≤ x_36.toInt ∧ x_36.toInt ≤ 10000000 from by omega) c41_1 (show (x_42.toInt = 0 → x_36.toInt ≤ 1) ∧ (x_42.toInt = 1 → x_36.toInt ≤ 10) ∧ (x_42.toInt = 2 → x_36.toInt ≤ 100) ∧ (x_42.toInt = 3 → x_36.toInt ≤ 1000) ∧ (x_42.toInt = 4 → x_36.toInt ≤ 10000) ∧ (x_42.toInt = 5 → x_36.toInt ≤ 100000) ∧ (x_42.toInt = 6 → x_36.toInt ≤ 1000000) ∧ (x_42.toInt = 7 → x_36.toInt ≤ 10000000) from by omega) hf_41 (by omega) (hP.sub [0, 1] rfl) (hD.sub [0, 1] (by decide) rfl) hS (lv_sub hl [0, 1, 2, 3, 6, 7, 8, 9, 10, 11] rfl)
                          · have f_35 : ¬ n.toInt ≤ t12_c75.toInt := zi_nle c_35
                            refine lv_ldc2 (v := 10) hx hb hown (hts (.constantLong RX8 193 (10)) (List.mem_of_getElem? (i := 1) rfl)) dX8_late_156 ?_
                            refine lv_goto (tgt := 163) hx hb dX8_late_159 (by decide) ?_
                            refine lv_lmul hx hb dX8_late_163 ?_
                            refine lv_topl (fun x_43 ex_43 => ?_)
                            have e_43 : x_43.toInt = t8_c75.toInt * 10 := by rw [ex_43]; exact zl_mul rfl (by decide) (by omega) (by omega)
                            clear ex_43
                            refine lv_lstore (lv' := [(8, .long x_43), (6, .long x_34), (15, .int t15_c88), (13, .long t13_c88), (12, .int t12_c75), (10, .long t10_c75), (0, .ref h), (1, .int w), (2, .int k), (3, .int n), (4, .int v), (5, .int q)]) hx hb dX8_late_164 hl (by decide) rfl (fun ls hl => ?_)
                            refine lv_lload hx hb dX8_late_166 (lv_at hl 5 rfl) ?_
                            refine lv_iload_n hx hb dX8_late_168 rfl (lv_at hl 9 rfl) ?_
                            refine lv_iload hx hb dX8_late_169 (lv_at hl 4 rfl) ?_
                            refine lv_isub hx hb dX8_late_171 ?_
                            refine lv_topi (fun x_44 ex_44 => ?_)
                            have e_44 : x_44.toInt = n.toInt - t12_c75.toInt := by rw [ex_44]; exact zi_sub (rfl) (rfl) (by omega) (by omega)
                            clear ex_44
                            refine lv_i2l (v := (x_44.toInt64)) hx hb dX8_late_172 rfl ?_
                            refine lv_lmul hx hb dX8_late_173 ?_
                            refine lv_topl (fun x_45 ex_45 => ?_)
                            clear ex_45
                            refine lv_iload hx hb dX8_late_174 (lv_at hl 4 rfl) ?_
                            refine lv_iconst (v := 1) hx hb dX8_late_176 (by decide) ?_
                            refine lv_iadd hx hb dX8_late_177 ?_
                            refine lv_topi (fun x_46 ex_46 => ?_)
                            have e_46 : x_46.toInt = t12_c75.toInt + 1 := by rw [ex_46]; exact zi_add (rfl) (by decide) (by omega) (by omega)
                            clear ex_46
                            refine lv_i2l (v := (x_46.toInt64)) hx hb dX8_late_178 rfl ?_
                            refine lv_ldiv hx hb dX8_late_179 (zl_nz (by rw [zl_of]; omega)) ?_
                            refine lv_topl (fun x_47 ex_47 => ?_)
                            clear ex_47
                            refine lv_lstore (lv' := [(10, .long x_47), (8, .long x_43), (6, .long x_34), (15, .int t15_c88), (13, .long t13_c88), (12, .int t12_c75), (0, .ref h), (1, .int w), (2, .int k), (3, .int n), (4, .int v), (5, .int q)]) hx hb dX8_late_180 hl (by decide) rfl (fun ls hl => ?_)
                            refine lv_aload_n hx hb dX8_late_182 rfl (lv_at hl 6 rfl) ?_
                            refine lv_bipush (v := 27) hx hb dX8_late_183 (by decide) ?_
                            refine lv_iload_n hx hb dX8_late_185 rfl (lv_at hl 7 rfl) ?_
                            have k_48 := (f_X8_day l D cI cB cQ H.size h sl zs ln ir tk tb tr fz na su le fu ap pp tc nm 27 w g0_c75 v0 ha_g0_c75 ⟨by decide, by decide⟩)
                            refine wc_v (WC := [(h, .inr (7, [.ref sl, .int na, .ref zs, .ref ln, .ref ir, .ref tk, .int su, .int le, .ref tb, .int fu, .int ap, .int pp, .ref tr, .int tc, .ref fz, .int nm])), (sl, .inl (cI, 1653, .inl g0_c75))]) (WR := []) (va_runV (As := [.int 27, .int w]) (rest := []) ⟨hx, hb, hml, hown, hts⟩ k_48 (cwV 2 hts gX8_late_X8_day rfl rfl rfl (by decide +kernel) ⟨Nat.le_of_ble_eq_true rfl, Nat.le_of_ble_eq_true rfl⟩) (wp_V hP hK hD hN [0, 1] (by decide) rfl (ci := 7) rfl rfl) rfl rfl hl.1 rfl (lv_room (Nat.le_of_ble_eq_true rfl)) dX8_late_186 ⟨Nat.le_of_ble_eq_true rfl, Nat.le_of_ble_eq_true rfl⟩) hP hD hS hA [0, 1] [] rfl rfl (by decide) (by decide) (fun u_48 H locs hw_48 hP hD hS => ?_)
                            clear k_48
                            have hP : va_P D kl [(h, .inr (7, [.ref sl, .int na, .ref zs, .ref ln, .ref ir, .ref tk, .int su, .int le, .ref tb, .int fu, .int ap, .int pp, .ref tr, .int tc, .ref fz, .int nm])), (sl, .inl (cI, 1653, .inl u_48))] H := hP
                            have hD : va_D A [(h, .inr (7, [.ref sl, .int na, .ref zs, .ref ln, .ref ir, .ref tk, .int su, .int le, .ref tb, .int fu, .int ap, .int pp, .ref tr, .int tc, .ref fz, .int nm])), (sl, .inl (cI, 1653, .inl u_48))] := hD
                            obtain ⟨c48_0, c48_1⟩ := hw_48
                            have c48_0 : FRM (57 * (27 : Int) + 31) (57 * (27 : Int) + 57) g0_c75 u_48 := c48_0
                            have c48_1 : SI u_48 v0 := c48_1
                            have hf_48 : FRM (1539) (1596) sf u_48 := FRM.trans hf_c75 (FRM.sub c48_0 (by omega) (by omega))
                            obtain ⟨x_49, ex_49⟩ : ∃ y : Int32, y = t12_c75 + Int32.ofInt 1 := ⟨_, rfl⟩
                            refine lv_iinc (v := x_49) (lv' := [(12, .int x_49), (10, .long x_47), (8, .long x_43), (6, .long x_34), (15, .int t15_c88), (13, .long t13_c88), (0, .ref h), (1, .int w), (2, .int k), (3, .int n), (4, .int v), (5, .int q)]) hx hb dX8_late_189 hl (k := 5) rfl ex_49.symm (by decide) rfl (fun ls hl => ?_)
                            have ex_49 : x_49 = t12_c75 + 1 := ex_49
                            have e_49 : x_49.toInt = t12_c75.toInt + 1 := by rw [ex_49]; exact zi_add (rfl) (by decide) (by omega) (by omega)
                            clear ex_49
                            refine lv_goto (tgt := 75) hx hb dX8_late_192 (by decide) ?_
                            exact ih75 x_49 x_47 x_43 x_34 u_48 _ _ _ (show 0 ≤ x_49.toInt ∧ x_49.toInt ≤ 7 from by omega) (show 1 ≤ x_43.toInt ∧ x_43.toInt ≤ 10000000 from by omega) c48_1 (show (x_49.toInt = 0 → x_43.toInt ≤ 1) ∧ (x_49.toInt = 1 → x_43.toInt ≤ 10) ∧ (x_49.toInt = 2 → x_43.toInt ≤ 100) ∧ (x_49.toInt = 3 → x_43.toInt ≤ 1000) ∧ (x_49.toInt = 4 → x_43.toInt ≤ 10000) ∧ (x_49.toInt = 5 → x_43.toInt ≤ 100000) ∧ (x_49.toInt = 6 → x_43.toInt ≤ 1000000) ∧ (x_49.toInt = 7 → x_43.toInt ≤ 10000000) from by omega) hf_48 (by omega) (hP.sub [0, 1] rfl) (hD.sub [0, 1] (by decide) rfl) hS (lv_sub hl [0, 1, 2, 3, 6, 7, 8, 9, 10, 11] rfl)
                      · have f_14 : ¬ n.toInt ≤ t15_c88.toInt := zi_nle c_14
                        refine lv_lload hx hb dX8_late_94 (lv_at hl 1 rfl) ?_
                        refine lv_iload hx hb dX8_late_96 (lv_at hl 0 rfl) ?_
                        refine lv_iload hx hb dX8_late_98 (lv_at hl 2 rfl) ?_
                        refine lv_icmp_ge (tgt := 108) hx hb dX8_late_100 (by decide) (fun c_50 => ?_) (fun c_50 => ?_)
                        · have f_50 : t12_c75.toInt ≤ t15_c88.toInt := zi_le c_50
                          refine lv_bipush (v := 10) hx hb dX8_late_108 (by decide) ?_
                          refine lv_iload_n hx hb dX8_late_110 rfl (lv_at hl 8 rfl) ?_
                          refine lv_isub hx hb dX8_late_111 ?_
                          refine lv_topi (fun x_51 ex_51 => ?_)
                          have e_51 : x_51.toInt = 10 - k.toInt := by rw [ex_51]; exact zi_sub (by decide) (rfl) (by omega) (by omega)
                          clear ex_51
                          refine lv_i2l (v := (x_51.toInt64)) hx hb dX8_late_112 rfl ?_
                          refine lv_lmul hx hb dX8_late_113 ?_
                          refine lv_topl (fun x_52 ex_52 => ?_)
                          clear ex_52
                          refine lv_lstore (lv' := [(13, .long x_52), (15, .int t15_c88), (12, .int t12_c75), (10, .long t10_c75), (8, .long t8_c75), (6, .long t6_c75), (0, .ref h), (1, .int w), (2, .int k), (3, .int n), (4, .int v), (5, .int q)]) hx hb dX8_late_114 hl (by decide) rfl (fun ls hl => ?_)
                          obtain ⟨x_53, ex_53⟩ : ∃ y : Int32, y = t15_c88 + Int32.ofInt 1 := ⟨_, rfl⟩
                          refine lv_iinc (v := x_53) (lv' := [(15, .int x_53), (13, .long x_52), (12, .int t12_c75), (10, .long t10_c75), (8, .long t8_c75), (6, .long t6_c75), (0, .ref h), (1, .int w), (2, .int k), (3, .int n), (4, .int v), (5, .int q)]) hx hb dX8_late_116 hl (k := 1) rfl ex_53.symm (by decide) rfl (fun ls hl => ?_)
                          have ex_53 : x_53 = t15_c88 + 1 := ex_53
                          have e_53 : x_53.toInt = t15_c88.toInt + 1 := by rw [ex_53]; exact zi_add (rfl) (by decide) (by omega) (by omega)
                          clear ex_53
                          refine lv_goto (tgt := 88) hx hb dX8_late_119 (by decide) ?_
                          exact ih88 x_53 x_52 _ _ _ (show 0 ≤ x_53.toInt ∧ x_53.toInt ≤ 6 from by omega) (by omega) (hP.sub [0, 1] rfl) (hD.sub [0, 1] (by decide) rfl) hS (lv_sub hl [0, 1, 2, 3, 4, 5, 6, 7, 8, 9, 10, 11] rfl)
                        · have f_50 : ¬ t12_c75.toInt ≤ t15_c88.toInt := zi_nle c_50
                          refine lv_iload_n hx hb dX8_late_103 rfl (lv_at hl 8 rfl) ?_
                          refine lv_i2l (v := (k.toInt64)) hx hb dX8_late_104 rfl ?_
                          refine lv_goto (tgt := 113) hx hb dX8_late_105 (by decide) ?_
                          refine lv_lmul hx hb dX8_late_113 ?_
                          refine lv_topl (fun x_54 ex_54 => ?_)
                          clear ex_54
                          refine lv_lstore (lv' := [(13, .long x_54), (15, .int t15_c88), (12, .int t12_c75), (10, .long t10_c75), (8, .long t8_c75), (6, .long t6_c75), (0, .ref h), (1, .int w), (2, .int k), (3, .int n), (4, .int v), (5, .int q)]) hx hb dX8_late_114 hl (by decide) rfl (fun ls hl => ?_)
                          obtain ⟨x_55, ex_55⟩ : ∃ y : Int32, y = t15_c88 + Int32.ofInt 1 := ⟨_, rfl⟩
                          refine lv_iinc (v := x_55) (lv' := [(15, .int x_55), (13, .long x_54), (12, .int t12_c75), (10, .long t10_c75), (8, .long t8_c75), (6, .long t6_c75), (0, .ref h), (1, .int w), (2, .int k), (3, .int n), (4, .int v), (5, .int q)]) hx hb dX8_late_116 hl (k := 1) rfl ex_55.symm (by decide) rfl (fun ls hl => ?_)
                          have ex_55 : x_55 = t15_c88 + 1 := ex_55
                          have e_55 : x_55.toInt = t15_c88.toInt + 1 := by rw [ex_55]; exact zi_add (rfl) (by decide) (by omega) (by omega)
                          clear ex_55
                          refine lv_goto (tgt := 88) hx hb dX8_late_119 (by decide) ?_
                          exact ih88 x_55 x_54 _ _ _ (show 0 ≤ x_55.toInt ∧ x_55.toInt ≤ 6 from by omega) (by omega) (hP.sub [0, 1] rfl) (hD.sub [0, 1] (by decide) rfl) hS (lv_sub hl [0, 1, 2, 3, 4, 5, 6, 7, 8, 9, 10, 11] rfl)
                  exact hL88 (((n.toInt - (0 : Int32).toInt).toNat) + 1) 0 t10_c75 _ _ _ (show 0 ≤ 0 ∧ 0 ≤ 6 from by omega) (Nat.lt_succ_self _) (hP.sub [0, 1] rfl) (hD.sub [0, 1] (by decide) rfl) hS (lv_sub hl [0, 1, 2, 3, 4, 5, 6, 7, 8, 9, 10, 11] rfl)
            exact hL75 (((7 - (0 : Int32).toInt).toNat) + 1) 0 1 1 0 u_6 _ _ _ (show 0 ≤ 0 ∧ 0 ≤ 7 from by omega) (show 1 ≤ 1 ∧ 1 ≤ 10000000 from by omega) c6_2 (show (0 = 0 → 1 ≤ 1) ∧ (0 = 1 → 1 ≤ 10) ∧ (0 = 2 → 1 ≤ 100) ∧ (0 = 3 → 1 ≤ 1000) ∧ (0 = 4 → 1 ≤ 10000) ∧ (0 = 5 → 1 ≤ 100000) ∧ (0 = 6 → 1 ≤ 1000000) ∧ (0 = 7 → 1 ≤ 10000000) from by omega) hf_6 (Nat.lt_succ_self _) (hP.sub [0, 1] rfl) (hD.sub [0, 1] (by decide) rfl) hS (lv_sub hl [0, 1, 2, 3, 4, 5, 6, 7, 8, 9] rfl)
          · subst e_5
            have f_5 : ¬ ((0 : Int) ≤ q.toInt ∧ q.toInt ≤ (1 : Int)) := by
              have h8 := f_5
              try simp only [zl_of] at h8
              exact h8
            refine lv_if_ne (tgt := 56) hx hb dX8_late_49 (by decide) (fun c9 => absurd (by decide) c9) (fun _ => ?_)
            refine lv_ldc2 (v := (-1000001)) hx hb hown (hts (.constantLong RX8 197 (-1000001)) (List.mem_of_getElem? (i := 3) rfl)) dX8_late_52 ?_
            exact wr_l (v := (-1000001)) hx hb hr hlocks hS sf (by exact ⟨show FRM (1539) (1596) sf sf from FRM.refl, hsi⟩) (hP.sub [0, 1] rfl) (hD.sub [0, 1] (by decide) rfl) dX8_late_55
        · subst e_4
          refine lv_if_eq (tgt := 52) hx hb dX8_late_38 (by decide) (fun _ => ?_) (fun c9 => absurd (by decide) c9)
          refine lv_ldc2 (v := (-1000001)) hx hb hown (hts (.constantLong RX8 197 (-1000001)) (List.mem_of_getElem? (i := 3) rfl)) dX8_late_52 ?_
          exact wr_l (v := (-1000001)) hx hb hr hlocks hS sf (by exact ⟨show FRM (1539) (1596) sf sf from FRM.refl, hsi⟩) (hP.sub [0, 1] rfl) (hD.sub [0, 1] (by decide) rfl) dX8_late_55
      · subst e_3
        have f_3 : ¬ ((0 : Int) ≤ n.toInt ∧ n.toInt ≤ (6 : Int)) := by
          have h8 := f_3
          try simp only [zl_of] at h8
          exact h8
        refine lv_if_eq (tgt := 52) hx hb dX8_late_29 (by decide) (fun _ => ?_) (fun c9 => absurd (by decide) c9)
        refine lv_ldc2 (v := (-1000001)) hx hb hown (hts (.constantLong RX8 197 (-1000001)) (List.mem_of_getElem? (i := 3) rfl)) dX8_late_52 ?_
        exact wr_l (v := (-1000001)) hx hb hr hlocks hS sf (by exact ⟨show FRM (1539) (1596) sf sf from FRM.refl, hsi⟩) (hP.sub [0, 1] rfl) (hD.sub [0, 1] (by decide) rfl) dX8_late_55
    · subst e_2
      have f_2 : ¬ ((0 : Int) ≤ k.toInt ∧ k.toInt ≤ (10 : Int)) := by
        have h8 := f_2
        try simp only [zl_of] at h8
        exact h8
      refine lv_if_eq (tgt := 52) hx hb dX8_late_17 (by decide) (fun _ => ?_) (fun c9 => absurd (by decide) c9)
      refine lv_ldc2 (v := (-1000001)) hx hb hown (hts (.constantLong RX8 197 (-1000001)) (List.mem_of_getElem? (i := 3) rfl)) dX8_late_52 ?_
      exact wr_l (v := (-1000001)) hx hb hr hlocks hS sf (by exact ⟨show FRM (1539) (1596) sf sf from FRM.refl, hsi⟩) (hP.sub [0, 1] rfl) (hD.sub [0, 1] (by decide) rfl) dX8_late_55
  · subst e_1
    refine lv_if_eq (tgt := 52) hx hb dX8_late_5 (by decide) (fun _ => ?_) (fun c9 => absurd (by decide) c9)
    refine lv_ldc2 (v := (-1000001)) hx hb hown (hts (.constantLong RX8 197 (-1000001)) (List.mem_of_getElem? (i := 3) rfl)) dX8_late_52 ?_
    exact wr_l (v := (-1000001)) hx hb hr hlocks hS sf (by exact ⟨show FRM (1539) (1596) sf sf from FRM.refl, hsi⟩) (hP.sub [0, 1] rfl) (hD.sub [0, 1] (by decide) rfl) dX8_late_55
