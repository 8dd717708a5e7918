theorem zl_rem {x y : Int64} (h : ¬ y.toInt = 0) : (x - x / y * y).toInt.natAbs < y.toInt.natAbs := by
  have h1 : (x.toInt.tmod y.toInt).natAbs < y.toInt.natAbs := by
    rw [Int.natAbs_tmod]
    exact Nat.mod_lt _ (by omega)
  have h2 := Int64.le_toInt y
  have h3 := Int64.toInt_lt y
  have e : (x - x / y * y).toInt = x.toInt.tmod y.toInt := by
    rw [Int64.toInt_sub, Int64.toInt_mul, Int64.toInt_div, Int.bmod_mul_bmod, Int.sub_bmod_bmod]
    have e2 : x.toInt - x.toInt.tdiv y.toInt * y.toInt = x.toInt.tmod y.toInt := by
      have h9 := Int.tdiv_mul_add_tmod x.toInt y.toInt
      omega
    rw [e2]
    exact Int.bmod_eq_of_le (by omega) (by omega)
  rw [e]
  exact h1
set_option maxHeartbeats 4000000 in
set_option maxRecDepth 100000 in
theorem g_X8_late (l : Launch) (D : va_G) (cI cB cQ : ClassId) (sz : Nat) (h : Nat) (sl : Nat) (zs : Nat) (ln : Nat) (ir : Nat) (tk : Nat) (tb : Nat) (tr : Nat) (fz : Nat) (na : Int32) (su : Int32) (le : Int32) (fu : Int32) (ap : Int32) (pp : Int32) (tc : Int32) (nm : Int32) (w : Int32) (k : Int32) (n : Int32) (v : Int32) (q : Int32) (sf : Nat → Int32) (v0 : Int) (hsi : SI sf v0) : ml l yX8_late wsX8_late ({ frames := 5, cells := 0, slots := 0, locals := 122 }) D cI cB cQ [.ref h, .int w, .int k, .int n, .int v, .int q] sz [(h, .inr (7, [.ref sl, .int na, .ref zs, .ref ln, .ref ir, .ref tk, .int su, .int le, .ref tb, .int fu, .int ap, .int pp, .ref tr, .int tc, .ref fz, .int nm])), (sl, .inl (cI, 1653, .inl sf))] (fun (r : Int64) (u : (Nat → Int32)) => (SI u v0)) (fun u => [(h, .inr (7, [.ref sl, .int na, .ref zs, .ref ln, .ref ir, .ref tk, .int su, .int le, .ref tb, .int fu, .int ap, .int pp, .ref tr, .int tc, .ref fz, .int nm])), (sl, .inl (cI, 1653, .inl u))]) 0 0 := by
  refine wm_l (cc := cX8_late) (maxL := 18) (ret := (some .long)) (by decide) rfl (Nat.le_of_ble_eq_true rfl) ?_
  intro p e s m below meth c A ls hx hb hr hml hown hts hlocks hin hP hK hD hN hA hl hS
  have hown : s.vm.findClass RX8 = some m.cls := hown
  have hl : lv_has ls 18 [(0, .ref h), (1, .int w), (2, .int k), (3, .int n), (4, .int v), (5, .int q)] := hl
  change W p l e ({ frames := 5, cells := 0, slots := 0, locals := 122 }) s m ([.ref h, .int w, .int k, .int n, .int v, .int q] : List Value).toArray below meth c s.heap [] 0 0 (MQ below (va_Ql (fun (r : Int64) (u : (Nat → Int32)) => (SI u v0)) (fun u t => wb D A ((fun u => [(h, .inr (7, [.ref sl, .int na, .ref zs, .ref ln, .ref ir, .ref tk, .int su, .int le, .ref tb, .int fu, .int ap, .int pp, .ref tr, .int tc, .ref fz, .int nm])), (sl, .inl (cI, 1653, .inl u))]) u) t) A) ([.ref h, .int w, .int k, .int n, .int v, .int q] : List Value).toArray s 0 0 A) (F0 m 0 ls [])
  refine lv_aload_n hx hb dX8_late_0 rfl (lv_at hl 0 rfl) ?_
  refine lv_iload_n hx hb dX8_late_1 rfl (lv_at hl 1 rfl) ?_
  have k_1 := (g_X8_isWalkerThere l D cI cB cQ s.heap.size h sl zs ln ir tk tb tr fz na su le fu ap pp tc nm w sf v0 hsi)
  refine wc_i (WC := [(h, .inr (7, [.ref sl, .int na, .ref zs, .ref ln, .ref ir, .ref tk, .int su, .int le, .ref tb, .int fu, .int ap, .int pp, .ref tr, .int tc, .ref fz, .int nm])), (sl, .inl (cI, 1653, .inl sf))]) (WR := []) (va_runV (As := [.int w]) (rest := []) ⟨hx, hb, hml, hown, hts⟩ k_1 (cwV 1 hts gX8_late_X8_isWalkerThere rfl rfl rfl (by decide +kernel) ⟨Nat.le_of_ble_eq_true rfl, Nat.le_of_ble_eq_true rfl⟩) (wp_V hP hK hD hN [0, 1] (by decide) rfl (ci := 7) rfl rfl) rfl rfl hl.1 rfl (lv_room (Nat.le_of_ble_eq_true rfl)) dX8_late_2 ⟨Nat.le_of_ble_eq_true rfl, Nat.le_of_ble_eq_true rfl⟩) hP hD hS hA [0, 1] [] rfl rfl (by decide) (by decide) (fun r_1 u_1 H locs hw_1 hP hD hS => ?_)
  clear k_1
  have hP : va_P D kl [(h, .inr (7, [.ref sl, .int na, .ref zs, .ref ln, .ref ir, .ref tk, .int su, .int le, .ref tb, .int fu, .int ap, .int pp, .ref tr, .int tc, .ref fz, .int nm])), (sl, .inl (cI, 1653, .inl sf))] H := hP
  have hD : va_D A [(h, .inr (7, [.ref sl, .int na, .ref zs, .ref ln, .ref ir, .ref tk, .int su, .int le, .ref tb, .int fu, .int ap, .int pp, .ref tr, .int tc, .ref fz, .int nm])), (sl, .inl (cI, 1653, .inl sf))] := hD
  have c1_0 := hw_1
  rcases c1_0 with ⟨e_1, f_1⟩ | e_1
  · subst e_1
    have f_1 : 0 ≤ w.toInt ∧ w.toInt ≤ 2 := f_1
    refine lv_if_eq (tgt := 52) hx hb dX8_late_5 (by decide) (fun c9 => absurd c9 (by decide)) (fun _ => ?_)
    refine lv_iload_n hx hb dX8_late_8 rfl (lv_at hl 2 rfl) ?_
    refine lv_i2l (v := (k.toInt64)) hx hb dX8_late_9 rfl ?_
    refine lv_lconst (v := 0) hx hb dX8_late_10 (by decide) ?_
    refine lv_ldc2 (v := 10) hx hb hown (hts (.constantLong RX8 193 (10)) (List.mem_of_getElem? (i := 1) rfl)) dX8_late_11 ?_
    have k_2 := (g_X8_in l D cI cB cQ H.size (k.toInt64) 0 10)
    refine wc_i (WC := []) (WR := [(h, .inr (7, [.ref sl, .int na, .ref zs, .ref ln, .ref ir, .ref tk, .int su, .int le, .ref tb, .int fu, .int ap, .int pp, .ref tr, .int tc, .ref fz, .int nm])), (sl, .inl (cI, 1653, .inl sf))]) (va_runS (As := [.long (k.toInt64), .long 0, .long 10]) (rest := []) ⟨hx, hb, hml, hown, hts⟩ k_2 (va_cwS 3 hts gX8_late_X8_in rfl rfl rfl (by decide +kernel) ⟨Nat.le_of_ble_eq_true rfl, Nat.le_of_ble_eq_true rfl⟩) (wp_S hP hK hD hN [] (by decide) rfl) rfl rfl hl.1 rfl (lv_room (Nat.le_of_ble_eq_true rfl)) dX8_late_14 ⟨Nat.le_of_ble_eq_true rfl, Nat.le_of_ble_eq_true rfl⟩) hP hD hS hA [] [0, 1] rfl rfl (by decide) (by decide) (fun r_2 u_2 H locs hw_2 hP hD hS => ?_)
    clear k_2
    have hP : va_P D kl [(h, .inr (7, [.ref sl, .int na, .ref zs, .ref ln, .ref ir, .ref tk, .int su, .int le, .ref tb, .int fu, .int ap, .int pp, .ref tr, .int tc, .ref fz, .int nm])), (sl, .inl (cI, 1653, .inl sf))] H := hP
    have hD : va_D A [(h, .inr (7, [.ref sl, .int na, .ref zs, .ref ln, .ref ir, .ref tk, .int su, .int le, .ref tb, .int fu, .int ap, .int pp, .ref tr, .int tc, .ref fz, .int nm])), (sl, .inl (cI, 1653, .inl sf))] := hD
    have c2_0 := hw_2
    rcases c2_0 with ⟨e_2, f_2⟩ | ⟨e_2, f_2⟩
    · subst e_2
      have f_2 : (0 : Int) ≤ k.toInt ∧ k.toInt ≤ (10 : Int) := by
        have h8 := f_2
        try simp only [zl_of] at h8
        exact h8
      refine lv_if_eq (tgt := 52) hx hb dX8_late_17 (by decide) (fun c9 => absurd c9 (by decide)) (fun _ => ?_)
      refine lv_iload_n hx hb dX8_late_20 rfl (lv_at hl 3 rfl) ?_
      refine lv_i2l (v := (n.toInt64)) hx hb dX8_late_21 rfl ?_
      refine lv_lconst (v := 0) hx hb dX8_late_22 (by decide) ?_
      refine lv_ldc2 (v := 6) hx hb hown (hts (.constantLong RX8 195 (6)) (List.mem_of_getElem? (i := 2) rfl)) dX8_late_23 ?_
      have k_3 := (g_X8_in l D cI cB cQ H.size (n.toInt64) 0 6)
      refine wc_i (WC := []) (WR := [(h, .inr (7, [.ref sl, .int na, .ref zs, .ref ln, .ref ir, .ref tk, .int su, .int le, .ref tb, .int fu, .int ap, .int pp, .ref tr, .int tc, .ref fz, .int nm])), (sl, .inl (cI, 1653, .inl sf))]) (va_runS (As := [.long (n.toInt64), .long 0, .long 6]) (rest := []) ⟨hx, hb, hml, hown, hts⟩ k_3 (va_cwS 3 hts gX8_late_X8_in rfl rfl rfl (by decide +kernel) ⟨Nat.le_of_ble_eq_true rfl, Nat.le_of_ble_eq_true rfl⟩) (wp_S hP hK hD hN [] (by decide) rfl) rfl rfl hl.1 rfl (lv_room (Nat.le_of_ble_eq_true rfl)) dX8_late_26 ⟨Nat.le_of_ble_eq_true rfl, Nat.le_of_ble_eq_true rfl⟩) hP hD hS hA [] [0, 1] rfl rfl (by decide) (by decide) (fun r_3 u_3 H locs hw_3 hP hD hS => ?_)
      clear k_3
      have hP : va_P D kl [(h, .inr (7, [.ref sl, .int na, .ref zs, .ref ln, .ref ir, .ref tk, .int su, .int le, .ref tb, .int fu, .int ap, .int pp, .ref tr, .int tc, .ref fz, .int nm])), (sl, .inl (cI, 1653, .inl sf))] H := hP
      have hD : va_D A [(h, .inr (7, [.ref sl, .int na, .ref zs, .ref ln, .ref ir, .ref tk, .int su, .int le, .ref tb, .int fu, .int ap, .int pp, .ref tr, .int tc, .ref fz, .int nm])), (sl, .inl (cI, 1653, .inl sf))] := hD
      have c3_0 := hw_3
      rcases c3_0 with ⟨e_3, f_3⟩ | ⟨e_3, f_3⟩
      · subst e_3
        have f_3 : (0 : Int) ≤ n.toInt ∧ n.toInt ≤ (6 : Int) := by
          have h8 := f_3
          try simp only [zl_of] at h8
          exact h8
        refine lv_if_eq (tgt := 52) hx hb dX8_late_29 (by decide) (fun c9 => absurd c9 (by decide)) (fun _ => ?_)
        refine lv_aload_n hx hb dX8_late_32 rfl (lv_at hl 0 rfl) ?_
        refine lv_iload hx hb dX8_late_33 (lv_at hl 4 rfl) ?_
        have k_4 := (g_X8_isVillageThere l D cI cB cQ H.size h sl zs ln ir tk tb tr fz na su le fu ap pp tc nm v sf v0 hsi)
        refine wc_i (WC := [(h, .inr (7, [.ref sl, .int na, .ref zs, .ref ln, .ref ir, .ref tk, .int su, .int le, .ref tb, .int fu, .int ap, .int pp, .ref tr, .int tc, .ref fz, .int nm])), (sl, .inl (cI, 1653, .inl sf))]) (WR := []) (va_runV (As := [.int v]) (rest := []) ⟨hx, hb, hml, hown, hts⟩ k_4 (cwV 1 hts gX8_late_X8_isVillageThere rfl rfl rfl (by decide +kernel) ⟨Nat.le_of_ble_eq_true rfl, Nat.le_of_ble_eq_true rfl⟩) (wp_V hP hK hD hN [0, 1] (by decide) rfl (ci := 7) rfl rfl) rfl rfl hl.1 rfl (lv_room (Nat.le_of_ble_eq_true rfl)) dX8_late_35 ⟨Nat.le_of_ble_eq_true rfl, Nat.le_of_ble_eq_true rfl⟩) hP hD hS hA [0, 1] [] rfl rfl (by decide) (by decide) (fun r_4 u_4 H locs hw_4 hP hD hS => ?_)
        clear k_4
        have hP : va_P D kl [(h, .inr (7, [.ref sl, .int na, .ref zs, .ref ln, .ref ir, .ref tk, .int su, .int le, .ref tb, .int fu, .int ap, .int pp, .ref tr, .int tc, .ref fz, .int nm])), (sl, .inl (cI, 1653, .inl sf))] H := hP
        have hD : va_D A [(h, .inr (7, [.ref sl, .int na, .ref zs, .ref ln, .ref ir, .ref tk, .int su, .int le, .ref tb, .int fu, .int ap, .int pp, .ref tr, .int tc, .ref fz, .int nm])), (sl, .inl (cI, 1653, .inl sf))] := hD
        have c4_0 := hw_4
        rcases c4_0 with ⟨e_4, f_4⟩ | e_4
        · subst e_4
          have f_4 : 0 ≤ v.toInt ∧ v.toInt ≤ 7 ∧ v.toInt < v0 := f_4
          refine lv_if_eq (tgt := 52) hx hb dX8_late_38 (by decide) (fun c9 => absurd c9 (by decide)) (fun _ => ?_)
          refine lv_iload hx hb dX8_late_41 (lv_at hl 5 rfl) ?_
          refine lv_i2l (v := (q.toInt64)) hx hb dX8_late_43 rfl ?_
          refine lv_lconst (v := 0) hx hb dX8_late_44 (by decide) ?_
          refine lv_lconst (v := 1) hx hb dX8_late_45 (by decide) ?_
          have k_5 := (g_X8_in l D cI cB cQ H.size (q.toInt64) 0 1)
          refine wc_i (WC := []) (WR := [(h, .inr (7, [.ref sl, .int na, .ref zs, .ref ln, .ref ir, .ref tk, .int su, .int le, .ref tb, .int fu, .int ap, .int pp, .ref tr, .int tc, .ref fz, .int nm])), (sl, .inl (cI, 1653, .inl sf))]) (va_runS (As := [.long (q.toInt64), .long 0, .long 1]) (rest := []) ⟨hx, hb, hml, hown, hts⟩ k_5 (va_cwS 3 hts gX8_late_X8_in rfl rfl rfl (by decide +kernel) ⟨Nat.le_of_ble_eq_true rfl, Nat.le_of_ble_eq_true rfl⟩) (wp_S hP hK hD hN [] (by decide) rfl) rfl rfl hl.1 rfl (lv_room (Nat.le_of_ble_eq_true rfl)) dX8_late_46 ⟨Nat.le_of_ble_eq_true rfl, Nat.le_of_ble_eq_true rfl⟩) hP hD hS hA [] [0, 1] rfl rfl (by decide) (by decide) (fun r_5 u_5 H locs hw_5 hP hD hS => ?_)
          clear k_5
          have hP : va_P D kl [(h, .inr (7, [.ref sl, .int na, .ref zs, .ref ln, .ref ir, .ref tk, .int su, .int le, .ref tb, .int fu, .int ap, .int pp, .ref tr, .int tc, .ref fz, .int nm])), (sl, .inl (cI, 1653, .inl sf))] H := hP
          have hD : va_D A [(h, .inr (7, [.ref sl, .int na, .ref zs, .ref ln, .ref ir, .ref tk, .int su, .int le, .ref tb, .int fu, .int ap, .int pp, .ref tr, .int tc, .ref fz, .int nm])), (sl, .inl (cI, 1653, .inl sf))] := hD
          have c5_0 := hw_5
          rcases c5_0 with ⟨e_5, f_5⟩ | ⟨e_5, f_5⟩
          · subst e_5
            have f_5 : (0 : Int) ≤ q.toInt ∧ q.toInt ≤ (1 : Int) := by
              have h8 := f_5
              try simp only [zl_of] at h8
              exact h8
            refine lv_if_ne (tgt := 56) hx hb dX8_late_49 (by decide) (fun _ => ?_) (fun c9 => absurd c9 (by decide))
            refine lv_aload_n hx hb dX8_late_56 rfl (lv_at hl 0 rfl) ?_
            refine lv_iconst (v := 0) hx hb dX8_late_57 (by decide) ?_
            refine lv_bipush (v := 27) hx hb dX8_late_58 (by decide) ?_
            have k_6 := (g_X8_copies l D cI cB cQ H.size h sl zs ln ir tk tb tr fz na su le fu ap pp tc nm 0 27 sf v0 hsi ⟨by decide, by decide⟩ ⟨by decide, by decide⟩)
            refine wc_v (WC := [(h, .inr (7, [.ref sl, .int na, .ref zs, .ref ln, .ref ir, .ref tk, .int su, .int le, .ref tb, .int fu, .int ap, .int pp, .ref tr, .int tc, .ref fz, .int nm])), (sl, .inl (cI, 1653, .inl sf))]) (WR := []) (va_runV (As := [.int 0, .int 27]) (rest := []) ⟨hx, hb, hml, hown, hts⟩ k_6 (cwV 2 hts gX8_late_X8_copies rfl rfl rfl (by decide +kernel) ⟨Nat.le_of_ble_eq_true rfl, Nat.le_of_ble_eq_true rfl⟩) (wp_V hP hK hD hN [0, 1] (by decide) rfl (ci := 7) rfl rfl) rfl rfl hl.1 rfl (lv_room (Nat.le_of_ble_eq_true rfl)) dX8_late_60 ⟨Nat.le_of_ble_eq_true rfl, Nat.le_of_ble_eq_true rfl⟩) hP hD hS hA [0, 1] [] rfl rfl (by decide) (by decide) (fun u_6 H locs hw_6 hP hD hS => ?_)
            clear k_6
            have hP : va_P D kl [(h, .inr (7, [.ref sl, .int na, .ref zs, .ref ln, .ref ir, .ref tk, .int su, .int le, .ref tb, .int fu, .int ap, .int pp, .ref tr, .int tc, .ref fz, .int nm])), (sl, .inl (cI, 1653, .inl u_6))] H := hP
            have hD : va_D A [(h, .inr (7, [.ref sl, .int na, .ref zs, .ref ln, .ref ir, .ref tk, .int su, .int le, .ref tb, .int fu, .int ap, .int pp, .ref tr, .int tc, .ref fz, .int nm])), (sl, .inl (cI, 1653, .inl u_6))] := hD
            have c6_0 := hw_6
            have c6_0 : SI u_6 v0 := c6_0
            refine lv_lconst (v := 0) hx hb dX8_late_63 (by decide) ?_
            refine lv_lstore (lv' := [(6, .long 0), (0, .ref h), (1, .int w), (2, .int k), (3, .int n), (4, .int v), (5, .int q)]) hx hb dX8_late_64 hl (by decide) rfl (fun ls hl => ?_)
            refine lv_lconst (v := 1) hx hb dX8_late_66 (by decide) ?_
            refine lv_lstore (lv' := [(8, .long 1), (6, .long 0), (0, .ref h), (1, .int w), (2, .int k), (3, .int n), (4, .int v), (5, .int q)]) hx hb dX8_late_67 hl (by decide) rfl (fun ls hl => ?_)
            refine lv_lconst (v := 1) hx hb dX8_late_69 (by decide) ?_
            refine lv_lstore (lv' := [(10, .long 1), (8, .long 1), (6, .long 0), (0, .ref h), (1, .int w), (2, .int k), (3, .int n), (4, .int v), (5, .int q)]) hx hb dX8_late_70 hl (by decide) rfl (fun ls hl => ?_)
            refine lv_iconst (v := 0) hx hb dX8_late_72 (by decide) ?_
            refine lv_istore (lv' := [(12, .int 0), (10, .long 1), (8, .long 1), (6, .long 0), (0, .ref h), (1, .int w), (2, .int k), (3, .int n), (4, .int v), (5, .int q)]) hx hb dX8_late_73 hl (by decide) rfl (fun ls hl => ?_)
            have hL75 : ∀ (nf : Nat) (t12_c75 : Int32) (t10_c75 : Int64) (t8_c75 : Int64) (t6_c75 : Int64) (g0_c75 : Nat → Int32) (H : Heap) (locs : List Loc) (ls : Array Slot), (0 ≤ t12_c75.toInt ∧ t12_c75.toInt ≤ 7) → (1 ≤ t8_c75.toInt ∧ t8_c75.toInt ≤ 10000000) → (SI g0_c75 v0) → ((t12_c75.toInt = 0 → t8_c75.toInt ≤ 1) ∧ (t12_c75.toInt = 1 → t8_c75.toInt ≤ 10) ∧ (t12_c75.toInt = 2 → t8_c75.toInt ≤ 100) ∧ (t12_c75.toInt = 3 → t8_c75.toInt ≤ 1000) ∧ (t12_c75.toInt = 4 → t8_c75.toInt ≤ 10000) ∧ (t12_c75.toInt = 5 → t8_c75.toInt ≤ 100000) ∧ (t12_c75.toInt = 6 → t8_c75.toInt ≤ 1000000) ∧ (t12_c75.toInt = 7 → t8_c75.toInt ≤ 10000000)) → (7 - t12_c75.toInt).toNat < nf → va_P D kl [(h, .inr (7, [.ref sl, .int na, .ref zs, .ref ln, .ref ir, .ref tk, .int su, .int le, .ref tb, .int fu, .int ap, .int pp, .ref tr, .int tc, .ref fz, .int nm])), (sl, .inl (cI, 1653, .inl g0_c75))] H → va_D A [(h, .inr (7, [.ref sl, .int na, .ref zs, .ref ln, .ref ir, .ref tk, .int su, .int le, .ref tb, .int fu, .int ap, .int pp, .ref tr, .int tc, .ref fz, .int nm])), (sl, .inl (cI, 1653, .inl g0_c75))] → va_S A s.heap H locs → lv_has ls 18 [(12, .int t12_c75), (10, .long t10_c75), (8, .long t8_c75), (6, .long t6_c75), (0, .ref h), (1, .int w), (2, .int k), (3, .int n), (4, .int v), (5, .int q)] → W p l e ({ frames := 5, cells := 0, slots := 0, locals := 122 }) s m ([.ref h, .int w, .int k, .int n, .int v, .int q] : List Value).toArray below meth c H locs 0 0 (MQ below (va_Ql (fun (r : Int64) (u : (Nat → Int32)) => (SI u v0)) (fun u t => wb D A ((fun u => [(h, .inr (7, [.ref sl, .int na, .ref zs, .ref ln, .ref ir, .ref tk, .int su, .int le, .ref tb, .int fu, .int ap, .int pp, .ref tr, .int tc, .ref fz, .int nm])), (sl, .inl (cI, 1653, .inl u))]) u) t) A) ([.ref h, .int w, .int k, .int n, .int v, .int q] : List Value).toArray s 0 0 A) (F0 m 75 ls []) := by
              intro nf
              induction nf with
              | zero =>
                intro t12_c75 t10_c75 t8_c75 t6_c75 g0_c75 H locs ls i_t12_c75 i_t8_c75 ha_g0_c75 j0_c75 hm
                exact absurd hm (Nat.not_lt_zero _)
              | succ nf ih75 =>
                intro t12_c75 t10_c75 t8_c75 t6_c75 g0_c75 H locs ls i_t12_c75 i_t8_c75 ha_g0_c75 j0_c75 hm75 hP hD hS hl
                refine lv_iload hx hb dX8_late_75 (lv_at hl 0 rfl) ?_
                refine lv_iload_n hx hb dX8_late_77 rfl (lv_at hl 7 rfl) ?_
                refine lv_icmp_gt (tgt := 195) hx hb dX8_late_78 (by decide) (fun c_7 => ?_) (fun c_7 => ?_)
                · have f_7 : n.toInt < t12_c75.toInt := zi_lt c_7
                  refine lv_lload hx hb dX8_late_195 (lv_at hl 3 rfl) ?_
                  refine lv_lstore (lv' := [(12, .long t6_c75), (10, .long t10_c75), (8, .long t8_c75), (6, .long t6_c75), (0, .ref h), (1, .int w), (2, .int k), (3, .int n), (4, .int v), (5, .int q)]) hx hb dX8_late_197 hl (by decide) rfl (fun ls hl => ?_)
                  refine lv_lload hx hb dX8_late_199 (lv_at hl 2 rfl) ?_
                  refine lv_lstore (lv' := [(14, .long t8_c75), (12, .long t6_c75), (10, .long t10_c75), (8, .long t8_c75), (6, .long t6_c75), (0, .ref h), (1, .int w), (2, .int k), (3, .int n), (4, .int v), (5, .int q)]) hx hb dX8_late_201 hl (by decide) rfl (fun ls hl => ?_)
                  have hL203 : ∀ (nf : Nat) (t14_c203 : Int64) (t12_c203 : Int64) (H : Heap) (locs : List Loc) (ls : Array Slot), (¬ (t12_c203.toInt = 0 ∧ t14_c203.toInt = 0)) → (t14_c203.toInt).natAbs < nf → va_P D kl [(h, .inr (7, [.ref sl, .int na, .ref zs, .ref ln, .ref ir, .ref tk, .int su, .int le, .ref tb, .int fu, .int ap, .int pp, .ref tr, .int tc, .ref fz, .int nm])), (sl, .inl (cI, 1653, .inl g0_c75))] H → va_D A [(h, .inr (7, [.ref sl, .int na, .ref zs, .ref ln, .ref ir, .ref tk, .int su, .int le, .ref tb, .int fu, .int ap, .int pp, .ref tr, .int tc, .ref fz, .int nm])), (sl, .inl (cI, 1653, .inl g0_c75))] → va_S A s.heap H locs → lv_has ls 18 [(14, .long t14_c203), (12, .long t12_c203), (10, .long t10_c75), (8, .long t8_c75), (6, .long t6_c75), (0, .ref h), (1, .int w), (2, .int k), (3, .int n), (4, .int v), (5, .int q)] → W p l e ({ frames := 5, cells := 0, slots := 0, locals := 122 }) s m ([.ref h, .int w, .int k, .int n, .int v, .int q] : List Value).toArray below meth c H locs 0 0 (MQ below (va_Ql (fun (r : Int64) (u : (Nat → Int32)) => (SI u v0)) (fun u t => wb D A ((fun u => [(h, .inr (7, [.ref sl, .int na, .ref zs, .ref ln, .ref ir, .ref tk, .int su, .int le, .ref tb, .int fu, .int ap, .int pp, .ref tr, .int tc, .ref fz, .int nm])), (sl, .inl (cI, 1653, .inl u))]) u) t) A) ([.ref h, .int w, .int k, .int n, .int v, .int q] : List Value).toArray s 0 0 A) (F0 m 203 ls []) := by
                    intro nf
                    induction nf with
                    | zero =>
                      intro t14_c203 t12_c203 H locs ls j0_c203 hm
                      exact absurd hm (Nat.not_lt_zero _)
                    | succ nf ih203 =>
                      intro t14_c203 t12_c203 H locs ls j0_c203 hm203 hP hD hS hl
                      refine lv_lload hx hb dX8_late_203 (lv_at hl 0 rfl) ?_
                      refine lv_lconst (v := 0) hx hb dX8_late_205 (by decide) ?_
                      refine W.lcmp hx hb dX8_late_206 ?_
                      refine lv_topi (fun x_8 ex_8 => ?_)
                      rcases zc_cases t14_c203 0 with ⟨h1, f_8⟩ | ⟨h1, f_8⟩ | ⟨h1, f_8⟩
                      · obtain rfl : x_8 = 1 := ex_8.trans h1
                        have f_8 : 0 < t14_c203.toInt := f_8
                        refine lv_if_eq (tgt := 228) hx hb dX8_late_207 (by decide) (fun c9 => absurd c9 (by decide)) (fun _ => ?_)
                        refine lv_lload hx hb dX8_late_210 (lv_at hl 1 rfl) ?_
                        refine lv_lload hx hb dX8_late_212 (lv_at hl 0 rfl) ?_
                        refine lv_lrem hx hb dX8_late_214 (zl_nz (by omega)) ?_
                        refine lv_topl (fun x_9 ex_9 => ?_)
                        have e_9 : x_9.toInt.natAbs < t14_c203.toInt.natAbs := by rw [ex_9]; exact zl_rem (by omega)
                        clear ex_9
                        refine lv_lstore (lv' := [(16, .long x_9), (14, .long t14_c203), (12, .long t12_c203), (10, .long t10_c75), (8, .long t8_c75), (6, .long t6_c75), (0, .ref h), (1, .int w), (2, .int k), (3, .int n), (4, .int v), (5, .int q)]) hx hb dX8_late_215 hl (by decide) rfl (fun ls hl => ?_)
                        refine lv_lload hx hb dX8_late_217 (lv_at hl 1 rfl) ?_
                        refine lv_lstore (lv' := [(12, .long t14_c203), (16, .long x_9), (14, .long t14_c203), (10, .long t10_c75), (8, .long t8_c75), (6, .long t6_c75), (0, .ref h), (1, .int w), (2, .int k), (3, .int n), (4, .int v), (5, .int q)]) hx hb dX8_late_219 hl (by decide) rfl (fun ls hl => ?_)
                        refine lv_lload hx hb dX8_late_221 (lv_at hl 1 rfl) ?_
                        refine lv_lstore (lv' := [(14, .long x_9), (12, .long t14_c203), (16, .long x_9), (10, .long t10_c75), (8, .long t8_c75), (6, .long t6_c75), (0, .ref h), (1, .int w), (2, .int k), (3, .int n), (4, .int v), (5, .int q)]) hx hb dX8_late_223 hl (by decide) rfl (fun ls hl => ?_)
                        refine lv_goto (tgt := 203) hx hb dX8_late_225 (by decide) ?_
                        exact ih203 x_9 t14_c203 _ _ _ (show ¬ (t14_c203.toInt = 0 ∧ x_9.toInt = 0) from by omega) (by omega) (hP.sub [0, 1] rfl) (hD.sub [0, 1] (by decide) rfl) hS (lv_sub hl [0, 1, 3, 4, 5, 6, 7, 8, 9, 10, 11] rfl)
                      · obtain rfl : x_8 = 0 := ex_8.trans h1
                        have f_8 : t14_c203.toInt = 0 := f_8
                        refine lv_if_eq (tgt := 228) hx hb dX8_late_207 (by decide) (fun _ => ?_) (fun c9 => absurd (by decide) c9)
                        refine lv_iload hx hb dX8_late_228 (lv_at hl 10 rfl) ?_
                        refine lv_if_ne (tgt := 241) hx hb dX8_late_230 (by decide) (fun c_10 => ?_) (fun c_10 => ?_)
                        · have f_10 : ¬ q.toInt = 0 := zi_ne c_10
                          refine lv_lload hx hb dX8_late_241 (lv_at hl 3 rfl) ?_
                          refine lv_lload hx hb dX8_late_243 (lv_at hl 1 rfl) ?_
                          refine lv_ldiv hx hb dX8_late_245 (zl_nz (by omega)) ?_
                          refine lv_topl (fun x_11 ex_11 => ?_)
                          clear ex_11
                          exact wr_l (v := x_11) hx hb hr hlocks hS g0_c75 (by exact ha_g0_c75) (hP.sub [0, 1] rfl) (hD.sub [0, 1] (by decide) rfl) dX8_late_246
                        · have f_10 : q.toInt = 0 := zi_eq c_10
                          refine lv_lload hx hb dX8_late_233 (lv_at hl 4 rfl) ?_
                          refine lv_lload hx hb dX8_late_235 (lv_at hl 1 rfl) ?_
                          refine lv_ldiv hx hb dX8_late_237 (zl_nz (by omega)) ?_
                          refine lv_topl (fun x_12 ex_12 => ?_)
                          clear ex_12
                          refine lv_goto (tgt := 246) hx hb dX8_late_238 (by decide) ?_
                          exact wr_l (v := x_12) hx hb hr hlocks hS g0_c75 (by exact ha_g0_c75) (hP.sub [0, 1] rfl) (hD.sub [0, 1] (by decide) rfl) dX8_late_246
                      · obtain rfl : x_8 = (-1) := ex_8.trans h1
                        have f_8 : t14_c203.toInt < 0 := f_8
                        refine lv_if_eq (tgt := 228) hx hb dX8_late_207 (by decide) (fun c9 => absurd c9 (by decide)) (fun _ => ?_)
                        refine lv_lload hx hb dX8_late_210 (lv_at hl 1 rfl) ?_
                        refine lv_lload hx hb dX8_late_212 (lv_at hl 0 rfl) ?_
                        refine lv_lrem hx hb dX8_late_214 (zl_nz (by omega)) ?_
                        refine lv_topl (fun x_13 ex_13 => ?_)
                        have e_13 : x_13.toInt.natAbs < t14_c203.toInt.natAbs := by rw [ex_13]; exact zl_rem (by omega)
                        clear ex_13
                        refine lv_lstore (lv' := [(16, .long x_13), (14, .long t14_c203), (12, .long t12_c203), (10, .long t10_c75), (8, .long t8_c75), (6, .long t6_c75), (0, .ref h), (1, .int w), (2, .int k), (3, .int n), (4, .int v), (5, .int q)]) hx hb dX8_late_215 hl (by decide) rfl (fun ls hl => ?_)
                        refine lv_lload hx hb dX8_late_217 (lv_at hl 1 rfl) ?_
                        refine lv_lstore (lv' := [(12, .long t14_c203), (16, .long x_13), (14, .long t14_c203), (10, .long t10_c75), (8, .long t8_c75), (6, .long t6_c75), (0, .ref h), (1, .int w), (2, .int k), (3, .int n), (4, .int v), (5, .int q)]) hx hb dX8_late_219 hl (by decide) rfl (fun ls hl => ?_)
                        refine lv_lload hx hb dX8_late_221 (lv_at hl 1 rfl) ?_
                        refine lv_lstore (lv' := [(14, .long x_13), (12, .long t14_c203), (16, .long x_13), (10, .long t10_c75), (8, .long t8_c75), (6, .long t6_c75), (0, .ref h), (1, .int w), (2, .int k), (3, .int n), (4, .int v), (5, .int q)]) hx hb dX8_late_223 hl (by decide) rfl (fun ls hl => ?_)
                        refine lv_goto (tgt := 203) hx hb dX8_late_225 (by decide) ?_
                        exact ih203 x_13 t14_c203 _ _ _ (show ¬ (t14_c203.toInt = 0 ∧ x_13.toInt = 0) from by omega) (by omega) (hP.sub [0, 1] rfl) (hD.sub [0, 1] (by decide) rfl) hS (lv_sub hl [0, 1, 3, 4, 5, 6, 7, 8, 9, 10, 11] rfl)
                  exact hL203 ((((t8_c75 : Int64).toInt).natAbs) + 1) t8_c75 t6_c75 _ _ _ (show ¬ (t6_c75.toInt = 0 ∧ t8_c75.toInt = 0) from by omega) (Nat.lt_succ_self _) (hP.sub [0, 1] rfl) (hD.sub [0, 1] (by decide) rfl) hS (lv_sub hl [0, 1, 2, 3, 4, 5, 6, 7, 8, 9, 10] rfl)
                · have f_7 : ¬ n.toInt < t12_c75.toInt := zi_nlt c_7
                  refine lv_lload hx hb dX8_late_81 (lv_at hl 1 rfl) ?_
                  refine lv_lstore (lv' := [(13, .long t10_c75), (12, .int t12_c75), (10, .long t10_c75), (8, .long t8_c75), (6, .long t6_c75), (0, .ref h), (1, .int w), (2, .int k), (3, .int n), (4, .int v), (5, .int q)]) hx hb dX8_late_83 hl (by decide) rfl (fun ls hl => ?_)
                  refine lv_iconst (v := 0) hx hb dX8_late_85 (by decide) ?_
                  refine lv_istore (lv' := [(15, .int 0), (13, .long t10_c75), (12, .int t12_c75), (10, .long t10_c75), (8, .long t8_c75), (6, .long t6_c75), (0, .ref h), (1, .int w), (2, .int k), (3, .int n), (4, .int v), (5, .int q)]) hx hb dX8_late_86 hl (by decide) rfl (fun ls hl => ?_)
                  have hL88 : ∀ (nf : Nat) (t15_c88 : Int32) (t13_c88 : Int64) (H : Heap) (locs : List Loc) (ls : Array Slot), (0 ≤ t15_c88.toInt ∧ t15_c88.toInt ≤ 6) → (n.toInt - t15_c88.toInt).toNat < nf → va_P D kl [(h, .inr (7, [.ref sl, .int na, .ref zs, .ref ln, .ref ir, .ref tk, .int su, .int le, .ref tb, .int fu, .int ap, .int pp, .ref tr, .int tc, .ref fz, .int nm])), (sl, .inl (cI, 1653, .inl g0_c75))] H → va_D A [(h, .inr (7, [.ref sl, .int na, .ref zs, .ref ln, .ref ir, .ref tk, .int su, .int le, .ref tb, .int fu, .int ap, .int pp, .ref tr, .int tc, .ref fz, .int nm])), (sl, .inl (cI, 1653, .inl g0_c75))] → va_S A s.heap H locs → lv_has ls 18 [(15, .int t15_c88), (13, .long t13_c88), (12, .int t12_c75), (10, .long t10_c75), (8, .long t8_c75), (6, .long t6_c75), (0, .ref h), (1, .int w), (2, .int k), (3, .int n), (4, .int v), (5, .int q)] → W p l e ({ frames := 5, cells := 0, slots := 0, locals := 122 }) s m ([.ref h, .int w, .int k, .int n, .int v, .int q] : List Value).toArray below meth c H locs 0 0 (MQ below (va_Ql (fun (r : Int64) (u : (Nat → Int32)) => (SI u v0)) (fun u t => wb D A ((fun u => [(h, .inr (7, [.ref sl, .int na, .ref zs, .ref ln, .ref ir, .ref tk, .int su, .int le, .ref tb, .int fu, .int ap, .int pp, .ref tr, .int tc, .ref fz, .int nm])), (sl, .inl (cI, 1653, .inl u))]) u) t) A) ([.ref h, .int w, .int k, .int n, .int v, .int q] : List Value).toArray s 0 0 A) (F0 m 88 ls []) := by
                    intro nf
                    induction nf with
                    | zero =>
                      intro t15_c88 t13_c88 H locs ls i_t15_c88 hm
                      exact absurd hm (Nat.not_lt_zero _)
                    | succ nf ih88 =>
                      intro t15_c88 t13_c88 H locs ls i_t15_c88 hm88 hP hD hS hl
                      refine lv_iload hx hb dX8_late_88 (lv_at hl 0 rfl) ?_
                      refine lv_iload_n hx hb dX8_late_90 rfl (lv_at hl 9 rfl) ?_
                      refine lv_icmp_ge (tgt := 122) hx hb dX8_late_91 (by decide) (fun c_14 => ?_) (fun c_14 => ?_)
                      · have f_14 : n.toInt ≤ t15_c88.toInt := zi_le c_14
                        refine lv_lload hx hb dX8_late_122 (lv_at hl 5 rfl) ?_
                        refine lv_aload_n hx hb dX8_late_124 rfl (lv_at hl 6 rfl) ?_
                        refine va_get (D := D) (ci := 7) (v := .ref sl) (C := RX8) (T := TX8) (N := 16) hx hb hts (fun _ h => List.mem_cons_of_mem _ (List.mem_append_right _ h)) hown hK hP 0 rfl rfl 0 (by decide) (hts (.fieldLink RX8 7 "WinterWalkModel" "slot" "[I") (List.mem_of_getElem? (i := 4) rfl)) (fun _ h9 => h9) rfl dX8_late_125 ?_
                        refine lv_sipush (v := 1587) hx hb dX8_late_128 (by decide) ?_
                        refine lv_iload_n hx hb dX8_late_131 rfl (lv_at hl 7 rfl) ?_
                        refine lv_iadd hx hb dX8_late_132 ?_
                        refine lv_topi (fun x_15 ex_15 => ?_)
                        have e_15 : x_15.toInt = 1587 + w.toInt := by rw [ex_15]; exact zi_add (by decide) (rfl) (by omega) (by omega)
                        clear ex_15
                        refine va_iald hx hb hK hP 1 0 rfl rfl (zi_in (by omega) (by omega)) dX8_late_133 ?_
                        refine lv_topi (fun x_16 ex_16 => ?_)
                        have f_16 : 0 ≤ x_16.toInt ∧ x_16.toInt ≤ 7 := by rw [ex_16]; exact si_a ha_g0_c75 (s := 27) (k := w.toInt) (by omega) (by omega) (by omega)
                        clear ex_16
                        refine lv_iload hx hb dX8_late_134 (lv_at hl 10 rfl) ?_
                        refine lv_icmp_ne (tgt := 144) hx hb dX8_late_136 (by decide) (fun c_17 => ?_) (fun c_17 => ?_)
                        · have f_17 : ¬ x_16.toInt = v.toInt := zi_ne c_17
                          refine lv_lconst (v := 0) hx hb dX8_late_144 (by decide) ?_
                          refine lv_ladd hx hb dX8_late_145 ?_
                          refine lv_topl (fun x_18 ex_18 => ?_)
                          clear ex_18
                          refine lv_lstore (lv' := [(6, .long x_18), (15, .int t15_c88), (13, .long t13_c88), (12, .int t12_c75), (10, .long t10_c75), (8, .long t8_c75), (0, .ref h), (1, .int w), (2, .int k), (3, .int n), (4, .int v), (5, .int q)]) hx hb dX8_late_146 hl (by decide) rfl (fun ls hl => ?_)
                          refine lv_lload hx hb dX8_late_148 (lv_at hl 5 rfl) ?_
                          refine lv_iload hx hb dX8_late_150 (lv_at hl 3 rfl) ?_
                          refine lv_iload_n hx hb dX8_late_152 rfl (lv_at hl 9 rfl) ?_
                          refine lv_icmp_ge (tgt := 162) hx hb dX8_late_153 (by decide) (fun c_19 => ?_) (fun c_19 => ?_)
                          · have f_19 : n.toInt ≤ t12_c75.toInt := zi_le c_19
                            refine lv_lconst (v := 1) hx hb dX8_late_162 (by decide) ?_
                            refine lv_lmul hx hb dX8_late_163 ?_
                            refine lv_topl (fun x_20 ex_20 => ?_)
                            have e_20 : x_20.toInt = t8_c75.toInt * 1 := by rw [ex_20]; exact zl_mul rfl (by decide) (by omega) (by omega)
                            clear ex_20
                            refine lv_lstore (lv' := [(8, .long x_20), (6, .long x_18), (15, .int t15_c88), (13, .long t13_c88), (12, .int t12_c75), (10, .long t10_c75), (0, .ref h), (1, .int w), (2, .int k), (3, .int n), (4, .int v), (5, .int q)]) hx hb dX8_late_164 hl (by decide) rfl (fun ls hl => ?_)
                            refine lv_lload hx hb dX8_late_166 (lv_at hl 5 rfl) ?_
                            refine lv_iload_n hx hb dX8_late_168 rfl (lv_at hl 9 rfl) ?_
                            refine lv_iload hx hb dX8_late_169 (lv_at hl 4 rfl) ?_
                            refine lv_isub hx hb dX8_late_171 ?_
                            refine lv_topi (fun x_21 ex_21 => ?_)
                            have e_21 : x_21.toInt = n.toInt - t12_c75.toInt := by rw [ex_21]; exact zi_sub (rfl) (rfl) (by omega) (by omega)
                            clear ex_21
                            refine lv_i2l (v := (x_21.toInt64)) hx hb dX8_late_172 rfl ?_
                            refine lv_lmul hx hb dX8_late_173 ?_
                            refine lv_topl (fun x_22 ex_22 => ?_)
                            clear ex_22
                            refine lv_iload hx hb dX8_late_174 (lv_at hl 4 rfl) ?_
                            refine lv_iconst (v := 1) hx hb dX8_late_176 (by decide) ?_
                            refine lv_iadd hx hb dX8_late_177 ?_
                            refine lv_topi (fun x_23 ex_23 => ?_)
                            have e_23 : x_23.toInt = t12_c75.toInt + 1 := by rw [ex_23]; exact zi_add (rfl) (by decide) (by omega) (by omega)
                            clear ex_23
                            refine lv_i2l (v := (x_23.toInt64)) hx hb dX8_late_178 rfl ?_
                            refine lv_ldiv hx hb dX8_late_179 (zl_nz (by rw [zl_of]; omega)) ?_
                            refine lv_topl (fun x_24 ex_24 => ?_)
                            clear ex_24
                            refine lv_lstore (lv' := [(10, .long x_24), (8, .long x_20), (6, .long x_18), (15, .int t15_c88), (13, .long t13_c88), (12, .int t12_c75), (0, .ref h), (1, .int w), (2, .int k), (3, .int n), (4, .int v), (5, .int q)]) hx hb dX8_late_180 hl (by decide) rfl (fun ls hl => ?_)
                            refine lv_aload_n hx hb dX8_late_182 rfl (lv_at hl 6 rfl) ?_
                            refine lv_bipush (v := 27) hx hb dX8_late_183 (by decide) ?_
                            refine lv_iload_n hx hb dX8_late_185 rfl (lv_at hl 7 rfl) ?_
                            have k_25 := (g_X8_day l D cI cB cQ H.size h sl zs ln ir tk tb tr fz na su le fu ap pp tc nm 27 w g0_c75 v0 ha_g0_c75 ⟨by decide, by decide⟩)
                            refine wc_v (WC := [(h, .inr (7, [.ref sl, .int na, .ref zs, .ref ln, .ref ir, .ref tk, .int su, .int le, .ref tb, .int fu, .int ap, .int pp, .ref tr, .int tc, .ref fz, .int nm])), (sl, .inl (cI, 1653, .inl g0_c75))]) (WR := []) (va_runV (As := [.int 27, .int w]) (rest := []) ⟨hx, hb, hml, hown, hts⟩ k_25 (cwV 2 hts gX8_late_X8_day rfl rfl rfl (by decide +kernel) ⟨Nat.le_of_ble_eq_true rfl, Nat.le_of_ble_eq_true rfl⟩) (wp_V hP hK hD hN [0, 1] (by decide) rfl (ci := 7) rfl rfl) rfl rfl hl.1 rfl (lv_room (Nat.le_of_ble_eq_true rfl)) dX8_late_186 ⟨Nat.le_of_ble_eq_true rfl, Nat.le_of_ble_eq_true rfl⟩) hP hD hS hA [0, 1] [] rfl rfl (by decide) (by decide) (fun u_25 H locs hw_25 hP hD hS => ?_)
                            clear k_25
                            have hP : va_P D kl [(h, .inr (7, [.ref sl, .int na, .ref zs, .ref ln, .ref ir, .ref tk, .int su, .int le, .ref tb, .int fu, .int ap, .int pp, .ref tr, .int tc, .ref fz, .int nm])), (sl, .inl (cI, 1653, .inl u_25))] H := hP
                            have hD : va_D A [(h, .inr (7, [.ref sl, .int na, .ref zs, .ref ln, .ref ir, .ref tk, .int su, .int le, .ref tb, .int fu, .int ap, .int pp, .ref tr, .int tc, .ref fz, .int nm])), (sl, .inl (cI, 1653, .inl u_25))] := hD
                            have c25_0 := hw_25
                            have c25_0 : SI u_25 v0 := c25_0
                            obtain ⟨x_26, ex_26⟩ : ∃ y : Int32, y = t12_c75 + Int32.ofInt 1 := ⟨_, rfl⟩
                            refine lv_iinc (v := x_26) (lv' := [(12, .int x_26), (10, .long x_24), (8, .long x_20), (6, .long x_18), (15, .int t15_c88), (13, .long t13_c88), (0, .ref h), (1, .int w), (2, .int k), (3, .int n), (4, .int v), (5, .int q)]) hx hb dX8_late_189 hl (k := 5) rfl ex_26.symm (by decide) rfl (fun ls hl => ?_)
                            have ex_26 : x_26 = t12_c75 + 1 := ex_26
                            have e_26 : x_26.toInt = t12_c75.toInt + 1 := by rw [ex_26]; exact zi_add (rfl) (by decide) (by omega) (by omega)
                            clear ex_26
                            refine lv_goto (tgt := 75) hx hb dX8_late_192 (by decide) ?_
                            exact ih75 x_26 x_24 x_20 x_18 u_25 _ _ _ (show 0 ≤ x_26.toInt ∧ x_26.toInt ≤ 7 from by omega) (show 1 ≤ x_20.toInt ∧ x_20.toInt ≤ 10000000 from by omega) c25_0 (show (x_26.toInt = 0 → x_20.toInt ≤ 1) ∧ (x_26.toInt = 1 → x_20.toInt ≤ 10) ∧ (x_26.toInt = 2 → x_20.toInt ≤ 100) ∧ (x_26.toInt = 3 → x_20.toInt ≤ 1000) ∧ (x_26.toInt = 4 → x_20.toInt ≤ 10000) ∧ (x_26.toInt = 5 → x_20.toInt ≤ 100000) ∧ (x_26.toInt = 6 → x_20.toInt ≤ 1000000) ∧ (x_26.toInt = 7 → x_20.toInt ≤ 10000000) from by omega) (by omega) (hP.sub [0, 1] rfl) (hD.sub [0, 1] (by decide) rfl) hS (lv_sub hl [0, 1, 2, 3, 6, 7, 8, 9, 10, 11] rfl)
                          · have f_19 : ¬ n.toInt ≤ t12_c75.toInt := zi_nle c_19
                            refine lv_ldc2 (v := 10) hx hb hown (hts (.constantLong RX8 193 (10)) (List.mem_of_getElem? (i := 1) rfl)) dX8_late_156 ?_
                            refine lv_goto (tgt := 163) hx hb dX8_late_159 (by decide) ?_
                            refine lv_lmul hx hb dX8_late_163 ?_
                            refine lv_topl (fun x_27 ex_27 => ?_)
                            have e_27 : x_27.toInt = t8_c75.toInt * 10 := by rw [ex_27]; exact zl_mul rfl (by decide) (by omega) (by omega)
                            clear ex_27
                            refine lv_lstore (lv' := [(8, .long x_27), (6, .long x_18), (15, .int t15_c88), (13, .long t13_c88), (12, .int t12_c75), (10, .long t10_c75), (0, .ref h), (1, .int w), (2, .int k), (3, .int n), (4, .int v), (5, .int q)]) hx hb dX8_late_164 hl (by decide) rfl (fun ls hl => ?_)
                            refine lv_lload hx hb dX8_late_166 (lv_at hl 5 rfl) ?_
                            refine lv_iload_n hx hb dX8_late_168 rfl (lv_at hl 9 rfl) ?_
                            refine lv_iload hx hb dX8_late_169 (lv_at hl 4 rfl) ?_
                            refine lv_isub hx hb dX8_late_171 ?_
                            refine lv_topi (fun x_28 ex_28 => ?_)
                            have e_28 : x_28.toInt = n.toInt - t12_c75.toInt := by rw [ex_28]; exact zi_sub (rfl) (rfl) (by omega) (by omega)
                            clear ex_28
                            refine lv_i2l (v := (x_28.toInt64)) hx hb dX8_late_172 rfl ?_
                            refine lv_lmul hx hb dX8_late_173 ?_
                            refine lv_topl (fun x_29 ex_29 => ?_)
                            clear ex_29
                            refine lv_iload hx hb dX8_late_174 (lv_at hl 4 rfl) ?_
                            refine lv_iconst (v := 1) hx hb dX8_late_176 (by decide) ?_
                            refine lv_iadd hx hb dX8_late_177 ?_
                            refine lv_topi (fun x_30 ex_30 => ?_)
                            have e_30 : x_30.toInt = t12_c75.toInt + 1 := by rw [ex_30]; exact zi_add (rfl) (by decide) (by omega) (by omega)
                            clear ex_30
                            refine lv_i2l (v := (x_30.toInt64)) hx hb dX8_late_178 rfl ?_
                            refine lv_ldiv hx hb dX8_late_179 (zl_nz (by rw [zl_of]; omega)) ?_
                            refine lv_topl (fun x_31 ex_31 => ?_)
                            clear ex_31
                            refine lv_lstore (lv' := [(10, .long x_31), (8, .long x_27), (6, .long x_18), (15, .int t15_c88), (13, .long t13_c88), (12, .int t12_c75), (0, .ref h), (1, .int w), (2, .int k), (3, .int n), (4, .int v), (5, .int q)]) hx hb dX8_late_180 hl (by decide) rfl (fun ls hl => ?_)
                            refine lv_aload_n hx hb dX8_late_182 rfl (lv_at hl 6 rfl) ?_
                            refine lv_bipush (v := 27) hx hb dX8_late_183 (by decide) ?_
                            refine lv_iload_n hx hb dX8_late_185 rfl (lv_at hl 7 rfl) ?_
                            have k_32 := (g_X8_day l D cI cB cQ H.size h sl zs ln ir tk tb tr fz na su le fu ap pp tc nm 27 w g0_c75 v0 ha_g0_c75 ⟨by decide, by decide⟩)
                            refine wc_v (WC := [(h, .inr (7, [.ref sl, .int na, .ref zs, .ref ln, .ref ir, .ref tk, .int su, .int le, .ref tb, .int fu, .int ap, .int pp, .ref tr, .int tc, .ref fz, .int nm])), (sl, .inl (cI, 1653, .inl g0_c75))]) (WR := []) (va_runV (As := [.int 27, .int w]) (rest := []) ⟨hx, hb, hml, hown, hts⟩ k_32 (cwV 2 hts gX8_late_X8_day rfl rfl rfl (by decide +kernel) ⟨Nat.le_of_ble_eq_true rfl, Nat.le_of_ble_eq_true rfl⟩) (wp_V hP hK hD hN [0, 1] (by decide) rfl (ci := 7) rfl rfl) rfl rfl hl.1 rfl (lv_room (Nat.le_of_ble_eq_true rfl)) dX8_late_186 ⟨Nat.le_of_ble_eq_true rfl, Nat.le_of_ble_eq_true rfl⟩) hP hD hS hA [0, 1] [] rfl rfl (by decide) (by decide) (fun u_32 H locs hw_32 hP hD hS => ?_)
                            clear k_32
                            have hP : va_P D kl [(h, .inr (7, [.ref sl, .int na, .ref zs, .ref ln, .ref ir, .ref tk, .int su, .int le, .ref tb, .int fu, .int ap, .int pp, .ref tr, .int tc, .ref fz, .int nm])), (sl, .inl (cI, 1653, .inl u_32))] H := hP
                            have hD : va_D A [(h, .inr (7, [.ref sl, .int na, .ref zs, .ref ln, .ref ir, .ref tk, .int su, .int le, .ref tb, .int fu, .int ap, .int pp, .ref tr, .int tc, .ref fz, .int nm])), (sl, .inl (cI, 1653, .inl u_32))] := hD
                            have c32_0 := hw_32
                            have c32_0 : SI u_32 v0 := c32_0
                            obtain ⟨x_33, ex_33⟩ : ∃ y : Int32, y = t12_c75 + Int32.ofInt 1 := ⟨_, rfl⟩
                            refine lv_iinc (v := x_33) (lv' := [(12, .int x_33), (10, .long x_31), (8, .long x_27), (6, .long x_18), (15, .int t15_c88), (13, .long t13_c88), (0, .ref h), (1, .int w), (2, .int k), (3, .int n), (4, .int v), (5, .int q)]) hx hb dX8_late_189 hl (k := 5) rfl ex_33.symm (by decide) rfl (fun ls hl => ?_)
                            have ex_33 : x_33 = t12_c75 + 1 := ex_33
                            have e_33 : x_33.toInt = t12_c75.toInt + 1 := by rw [ex_33]; exact zi_add (rfl) (by decide) (by omega) (by omega)
                            clear ex_33
                            refine lv_goto (tgt := 75) hx hb dX8_late_192 (by decide) ?_
                            exact ih75 x_33 x_31 x_27 x_18 u_32 _ _ _ (show 0 ≤ x_33.toInt ∧ x_33.toInt ≤ 7 from by omega) (show 1 ≤ x_27.toInt ∧ x_27.toInt ≤ 10000000 from by omega) c32_0 (show (x_33.toInt = 0 → x_27.toInt ≤ 1) ∧ (x_33.toInt = 1 → x_27.toInt ≤ 10) ∧ (x_33.toInt = 2 → x_27.toInt ≤ 100) ∧ (x_33.toInt = 3 → x_27.toInt ≤ 1000) ∧ (x_33.toInt = 4 → x_27.toInt ≤ 10000) ∧ (x_33.toInt = 5 → x_27.toInt ≤ 100000) ∧ (x_33.toInt = 6 → x_27.toInt ≤ 1000000) ∧ (x_33.toInt = 7 → x_27.toInt ≤ 10000000) from by omega) (by omega) (hP.sub [0, 1] rfl) (hD.sub [0, 1] (by decide) rfl) hS (lv_sub hl [0, 1, 2, 3, 6, 7, 8, 9, 10, 11] rfl)
                        · have f_17 : x_16.toInt = v.toInt := zi_eq c_17
                          refine lv_lload hx hb dX8_late_139 (lv_at hl 1 rfl) ?_
                          refine lv_goto (tgt := 145) hx hb dX8_late_141 (by decide) ?_
                          refine lv_ladd hx hb dX8_late_145 ?_
                          refine lv_topl (fun x_34 ex_34 => ?_)
                          clear ex_34
                          refine lv_lstore (lv' := [(6, .long x_34), (15, .int t15_c88), (13, .long t13_c88), (12, .int t12_c75), (10, .long t10_c75), (8, .long t8_c75), (0, .ref h), (1, .int w), (2, .int k), (3, .int n), (4, .int v), (5, .int q)]) hx hb dX8_late_146 hl (by decide) rfl (fun ls hl => ?_)
                          refine lv_lload hx hb dX8_late_148 (lv_at hl 5 rfl) ?_
                          refine lv_iload hx hb dX8_late_150 (lv_at hl 3 rfl) ?_
                          refine lv_iload_n hx hb dX8_late_152 rfl (lv_at hl 9 rfl) ?_
                          refine lv_icmp_ge (tgt := 162) hx hb dX8_late_153 (by decide) (fun c_35 => ?_) (fun c_35 => ?_)
                          · have f_35 : n.toInt ≤ t12_c75.toInt := zi_le c_35
                            refine lv_lconst (v := 1) hx hb dX8_late_162 (by decide) ?_
                            refine lv_lmul hx hb dX8_late_163 ?_
                            refine lv_topl (fun x_36 ex_36 => ?_)
                            have e_36 : x_36.toInt = t8_c75.toInt * 1 := by rw [ex_36]; exact zl_mul rfl (by decide) (by omega) (by omega)
                            clear ex_36
                            refine lv_lstore (lv' := [(8, .long x_36), (6, .long x_34), (15, .int t15_c88), (13, .long t13_c88), (12, .int t12_c75), (10, .long t10_c75), (0, .ref h), (1, .int w), (2, .int k), (3, .int n), (4, .int v), (5, .int q)]) hx hb dX8_late_164 hl (by decide) rfl (fun ls hl => ?_)
                            refine lv_lload hx hb dX8_late_166 (lv_at hl 5 rfl) ?_
                            refine lv_iload_n hx hb dX8_late_168 rfl (lv_at hl 9 rfl) ?_
                            refine lv_iload hx hb dX8_late_169 (lv_at hl 4 rfl) ?_
                            refine lv_isub hx hb dX8_late_171 ?_
                            refine lv_topi (fun x_37 ex_37 => ?_)
                            have e_37 : x_37.toInt = n.toInt - t12_c75.toInt := by rw [ex_37]; exact zi_sub (rfl) (rfl) (by omega) (by omega)
                            clear ex_37
                            refine lv_i2l (v := (x_37.toInt64)) hx hb dX8_late_172 rfl ?_
                            refine lv_lmul hx hb dX8_late_173 ?_
                            refine lv_topl (fun x_38 ex_38 => ?_)
                            clear ex_38
                            refine lv_iload hx hb dX8_late_174 (lv_at hl 4 rfl) ?_
                            refine lv_iconst (v := 1) hx hb dX8_late_176 (by decide) ?_
                            refine lv_iadd hx hb dX8_late_177 ?_
                            refine lv_topi (fun x_39 ex_39 => ?_)
                            have e_39 : x_39.toInt = t12_c75.toInt + 1 := by rw [ex_39]; exact zi_add (rfl) (by decide) (by omega) (by omega)
                            clear ex_39
                            refine lv_i2l (v := (x_39.toInt64)) hx hb dX8_late_178 rfl ?_
                            refine lv_ldiv hx hb dX8_late_179 (zl_nz (by rw [zl_of]; omega)) ?_
                            refine lv_topl (fun x_40 ex_40 => ?_)
                            clear ex_40
                            refine lv_lstore (lv' := [(10, .long x_40), (8, .long x_36), (6, .long x_34), (15, .int t15_c88), (13, .long t13_c88), (12, .int t12_c75), (0, .ref h), (1, .int w), (2, .int k), (3, .int n), (4, .int v), (5, .int q)]) hx hb dX8_late_180 hl (by decide) rfl (fun ls hl => ?_)
                            refine lv_aload_n hx hb dX8_late_182 rfl (lv_at hl 6 rfl) ?_
                            refine lv_bipush (v := 27) hx hb dX8_late_183 (by decide) ?_
                            refine lv_iload_n hx hb dX8_late_185 rfl (lv_at hl 7 rfl) ?_
                            have k_41 := (g_X8_day l D cI cB cQ H.size h sl zs ln ir tk tb tr fz na su le fu ap pp tc nm 27 w g0_c75 v0 ha_g0_c75 ⟨by decide, by decide⟩)
                            refine wc_v (WC := [(h, .inr (7, [.ref sl, .int na, .ref zs, .ref ln, .ref ir, .ref tk, .int su, .int le, .ref tb, .int fu, .int ap, .int pp, .ref tr, .int tc, .ref fz, .int nm])), (sl, .inl (cI, 1653, .inl g0_c75))]) (WR := []) (va_runV (As := [.int 27, .int w]) (rest := []) ⟨hx, hb, hml, hown, hts⟩ k_41 (cwV 2 hts gX8_late_X8_day rfl rfl rfl (by decide +kernel) ⟨Nat.le_of_ble_eq_true rfl, Nat.le_of_ble_eq_true rfl⟩) (wp_V hP hK hD hN [0, 1] (by decide) rfl (ci := 7) rfl rfl) rfl rfl hl.1 rfl (lv_room (Nat.le_of_ble_eq_true rfl)) dX8_late_186 ⟨Nat.le_of_ble_eq_true rfl, Nat.le_of_ble_eq_true rfl⟩) hP hD hS hA [0, 1] [] rfl rfl (by decide) (by decide) (fun u_41 H locs hw_41 hP hD hS => ?_)
                            clear k_41
                            have hP : va_P D kl [(h, .inr (7, [.ref sl, .int na, .ref zs, .ref ln, .ref ir, .ref tk, .int su, .int le, .ref tb, .int fu, .int ap, .int pp, .ref tr, .int tc, .ref fz, .int nm])), (sl, .inl (cI, 1653, .inl u_41))] H := hP
                            have hD : va_D A [(h, .inr (7, [.ref sl, .int na, .ref zs, .ref ln, .ref ir, .ref tk, .int su, .int le, .ref tb, .int fu, .int ap, .int pp, .ref tr, .int tc, .ref fz, .int nm])), (sl, .inl (cI, 1653, .inl u_41))] := hD
                            have c41_0 := hw_41
                            have c41_0 : SI u_41 v0 := c41_0
                            obtain ⟨x_42, ex_42⟩ : ∃ y : Int32, y = t12_c75 + Int32.ofInt 1 := ⟨_, rfl⟩
                            refine lv_iinc (v := x_42) (lv' := [(12, .int x_42), (10, .long x_40), (8, .long x_36), (6, .long x_34), (15, .int t15_c88), (13, .long t13_c88), (0, .ref h), (1, .int w), (2, .int k), (3, .int n), (4, .int v), (5, .int q)]) hx hb dX8_late_189 hl (k := 5) rfl ex_42.symm (by decide) rfl (fun ls hl => ?_)
                            have ex_42 : x_42 = t12_c75 + 1 := ex_42
                            have e_42 : x_42.toInt = t12_c75.toInt + 1 := by rw [ex_42]; exact zi_add (rfl) (by decide) (by omega) (by omega)
                            clear ex_42
                            refine lv_goto (tgt := 75) hx hb dX8_late_192 (by decide) ?_
                            exact ih75 x_42 x_40 x_36 x_34 u_41 _ _ _ (show 0 ≤ x_42.toInt ∧ x_42.toInt ≤ 7 from by omega) (show 1 ≤ x_36.toInt ∧ x_36.toInt ≤ 10000000 from by omega) c41_0 (show (x_42.toInt = 0 → x_36.toInt ≤ 1) ∧ (x_42.toInt = 1 → x_36.toInt ≤ 10) ∧ (x_42.toInt = 2 → x_36.toInt ≤ 100) ∧ (x_42.toInt = 3 → x_36.toInt ≤ 1000) ∧ (x_42.toInt = 4 → x_36.toInt ≤ 10000) ∧ (x_42.toInt = 5 → x_36.toInt ≤ 100000) ∧ (x_42.toInt = 6 → x_36.toInt ≤ 1000000) ∧ (x_42.toInt = 7 → x_36.toInt ≤ 10000000) from by omega) (by omega) (hP.sub [0, 1] rfl) (hD.sub [0, 1] (by decide) rfl) hS (lv_sub hl [0, 1, 2, 3, 6, 7, 8, 9, 10, 11] rfl)
                          · have f_35 : ¬ n.toInt ≤ t12_c75.toInt := zi_nle c_35
                            refine lv_ldc2 (v := 10) hx hb hown (hts (.constantLong RX8 193 (10)) (List.mem_of_getElem? (i := 1) rfl)) dX8_late_156 ?_
                            refine lv_goto (tgt := 163) hx hb dX8_late_159 (by decide) ?_
                            refine lv_lmul hx hb dX8_late_163 ?_
                            refine lv_topl (fun x_43 ex_43 => ?_)
                            have e_43 : x_43.toInt = t8_c75.toInt * 10 := by rw [ex_43]; exact zl_mul rfl (by decide) (by omega) (by omega)
                            clear ex_43
                            refine lv_lstore (lv' := [(8, .long x_43), (6, .long x_34), (15, .int t15_c88), (13, .long t13_c88), (12, .int t12_c75), (10, .long t10_c75), (0, .ref h), (1, .int w), (2, .int k), (3, .int n), (4, .int v), (5, .int q)]) hx hb dX8_late_164 hl (by decide) rfl (fun ls hl => ?_)
                            refine lv_lload hx hb dX8_late_166 (lv_at hl 5 rfl) ?_
                            refine lv_iload_n hx hb dX8_late_168 rfl (lv_at hl 9 rfl) ?_
                            refine lv_iload hx hb dX8_late_169 (lv_at hl 4 rfl) ?_
                            refine lv_isub hx hb dX8_late_171 ?_
                            refine lv_topi (fun x_44 ex_44 => ?_)
                            have e_44 : x_44.toInt = n.toInt - t12_c75.toInt := by rw [ex_44]; exact zi_sub (rfl) (rfl) (by omega) (by omega)
                            clear ex_44
                            refine lv_i2l (v := (x_44.toInt64)) hx hb dX8_late_172 rfl ?_
                            refine lv_lmul hx hb dX8_late_173 ?_
                            refine lv_topl (fun x_45 ex_45 => ?_)
                            clear ex_45
                            refine lv_iload hx hb dX8_late_174 (lv_at hl 4 rfl) ?_
                            refine lv_iconst (v := 1) hx hb dX8_late_176 (by decide) ?_
                            refine lv_iadd hx hb dX8_late_177 ?_
                            refine lv_topi (fun x_46 ex_46 => ?_)
                            have e_46 : x_46.toInt = t12_c75.toInt + 1 := by rw [ex_46]; exact zi_add (rfl) (by decide) (by omega) (by omega)
                            clear ex_46
                            refine lv_i2l (v := (x_46.toInt64)) hx hb dX8_late_178 rfl ?_
                            refine lv_ldiv hx hb dX8_late_179 (zl_nz (by rw [zl_of]; omega)) ?_
                            refine lv_topl (fun x_47 ex_47 => ?_)
                            clear ex_47
                            refine lv_lstore (lv' := [(10, .long x_47), (8, .long x_43), (6, .long x_34), (15, .int t15_c88), (13, .long t13_c88), (12, .int t12_c75), (0, .ref h), (1, .int w), (2, .int k), (3, .int n), (4, .int v), (5, .int q)]) hx hb dX8_late_180 hl (by decide) rfl (fun ls hl => ?_)
                            refine lv_aload_n hx hb dX8_late_182 rfl (lv_at hl 6 rfl) ?_
                            refine lv_bipush (v := 27) hx hb dX8_late_183 (by decide) ?_
                            refine lv_iload_n hx hb dX8_late_185 rfl (lv_at hl 7 rfl) ?_
                            have k_48 := (g_X8_day l D cI cB cQ H.size h sl zs ln ir tk tb tr fz na su le fu ap pp tc nm 27 w g0_c75 v0 ha_g0_c75 ⟨by decide, by decide⟩)
                            refine wc_v (WC := [(h, .inr (7, [.ref sl, .int na, .ref zs, .ref ln, .ref ir, .ref tk, .int su, .int le, .ref tb, .int fu, .int ap, .int pp, .ref tr, .int tc, .ref fz, .int nm])), (sl, .inl (cI, 1653, .inl g0_c75))]) (WR := []) (va_runV (As := [.int 27, .int w]) (rest := []) ⟨hx, hb, hml, hown, hts⟩ k_48 (cwV 2 hts gX8_late_X8_day rfl rfl rfl (by decide +kernel) ⟨Nat.le_of_ble_eq_true rfl, Nat.le_of_ble_eq_true rfl⟩) (wp_V hP hK hD hN [0, 1] (by decide) rfl (ci := 7) rfl rfl) rfl rfl hl.1 rfl (lv_room (Nat.le_of_ble_eq_true rfl)) dX8_late_186 ⟨Nat.le_of_ble_eq_true rfl, Nat.le_of_ble_eq_true rfl⟩) hP hD hS hA [0, 1] [] rfl rfl (by decide) (by decide) (fun u_48 H locs hw_48 hP hD hS => ?_)
                            clear k_48
                            have hP : va_P D kl [(h, .inr (7, [.ref sl, .int na, .ref zs, .ref ln, .ref ir, .ref tk, .int su, .int le, .ref tb, .int fu, .int ap, .int pp, .ref tr, .int tc, .ref fz, .int nm])), (sl, .inl (cI, 1653, .inl u_48))] H := hP
                            have hD : va_D A [(h, .inr (7, [.ref sl, .int na, .ref zs, .ref ln, .ref ir, .ref tk, .int su, .int le, .ref tb, .int fu, .int ap, .int pp, .ref tr, .int tc, .ref fz, .int nm])), (sl, .inl (cI, 1653, .inl u_48))] := hD
                            have c48_0 := hw_48
                            have c48_0 : SI u_48 v0 := c48_0
                            obtain ⟨x_49, ex_49⟩ : ∃ y : Int32, y = t12_c75 + Int32.ofInt 1 := ⟨_, rfl⟩
                            refine lv_iinc (v := x_49) (lv' := [(12, .int x_49), (10, .long x_47), (8, .long x_43), (6, .long x_34), (15, .int t15_c88), (13, .long t13_c88), (0, .ref h), (1, .int w), (2, .int k), (3, .int n), (4, .int v), (5, .int q)]) hx hb dX8_late_189 hl (k := 5) rfl ex_49.symm (by decide) rfl (fun ls hl => ?_)
                            have ex_49 : x_49 = t12_c75 + 1 := ex_49
                            have e_49 : x_49.toInt = t12_c75.toInt + 1 := by rw [ex_49]; exact zi_add (rfl) (by decide) (by omega) (by omega)
                            clear ex_49
                            refine lv_goto (tgt := 75) hx hb dX8_late_192 (by decide) ?_
                            exact ih75 x_49 x_47 x_43 x_34 u_48 _ _ _ (show 0 ≤ x_49.toInt ∧ x_49.toInt ≤ 7 from by omega) (show 1 ≤ x_43.toInt ∧ x_43.toInt ≤ 10000000 from by omega) c48_0 (show (x_49.toInt = 0 → x_43.toInt ≤ 1) ∧ (x_49.toInt = 1 → x_43.toInt ≤ 10) ∧ (x_49.toInt = 2 → x_43.toInt ≤ 100) ∧ (x_49.toInt = 3 → x_43.toInt ≤ 1000) ∧ (x_49.toInt = 4 → x_43.toInt ≤ 10000) ∧ (x_49.toInt = 5 → x_43.toInt ≤ 100000) ∧ (x_49.toInt = 6 → x_43.toInt ≤ 1000000) ∧ (x_49.toInt = 7 → x_43.toInt ≤ 10000000) from by omega) (by omega) (hP.sub [0, 1] rfl) (hD.sub [0, 1] (by decide) rfl) hS (lv_sub hl [0, 1, 2, 3, 6, 7, 8, 9, 10, 11] rfl)
                      · have f_14 : ¬ n.toInt ≤ t15_c88.toInt := zi_nle c_14
                        refine lv_lload hx hb dX8_late_94 (lv_at hl 1 rfl) ?_
                        refine lv_iload hx hb dX8_late_96 (lv_at hl 0 rfl) ?_
                        refine lv_iload hx hb dX8_late_98 (lv_at hl 2 rfl) ?_
                        refine lv_icmp_ge (tgt := 108) hx hb dX8_late_100 (by decide) (fun c_50 => ?_) (fun c_50 => ?_)
                        · have f_50 : t12_c75.toInt ≤ t15_c88.toInt := zi_le c_50
                          refine lv_bipush (v := 10) hx hb dX8_late_108 (by decide) ?_
                          refine lv_iload_n hx hb dX8_late_110 rfl (lv_at hl 8 rfl) ?_
                          refine lv_isub hx hb dX8_late_111 ?_
                          refine lv_topi (fun x_51 ex_51 => ?_)
                          have e_51 : x_51.toInt = 10 - k.toInt := by rw [ex_51]; exact zi_sub (by decide) (rfl) (by omega) (by omega)
                          clear ex_51
                          refine lv_i2l (v := (x_51.toInt64)) hx hb dX8_late_112 rfl ?_
                          refine lv_lmul hx hb dX8_late_113 ?_
                          refine lv_topl (fun x_52 ex_52 => ?_)
                          clear ex_52
                          refine lv_lstore (lv' := [(13, .long x_52), (15, .int t15_c88), (12, .int t12_c75), (10, .long t10_c75), (8, .long t8_c75), (6, .long t6_c75), (0, .ref h), (1, .int w), (2, .int k), (3, .int n), (4, .int v), (5, .int q)]) hx hb dX8_late_114 hl (by decide) rfl (fun ls hl => ?_)
                          obtain ⟨x_53, ex_53⟩ : ∃ y : Int32, y = t15_c88 + Int32.ofInt 1 := ⟨_, rfl⟩
                          refine lv_iinc (v := x_53) (lv' := [(15, .int x_53), (13, .long x_52), (12, .int t12_c75), (10, .long t10_c75), (8, .long t8_c75), (6, .long t6_c75), (0, .ref h), (1, .int w), (2, .int k), (3, .int n), (4, .int v), (5, .int q)]) hx hb dX8_late_116 hl (k := 1) rfl ex_53.symm (by decide) rfl (fun ls hl => ?_)
                          have ex_53 : x_53 = t15_c88 + 1 := ex_53
                          have e_53 : x_53.toInt = t15_c88.toInt + 1 := by rw [ex_53]; exact zi_add (rfl) (by decide) (by omega) (by omega)
                          clear ex_53
                          refine lv_goto (tgt := 88) hx hb dX8_late_119 (by decide) ?_
                          exact ih88 x_53 x_52 _ _ _ (show 0 ≤ x_53.toInt ∧ x_53.toInt ≤ 6 from by omega) (by omega) (hP.sub [0, 1] rfl) (hD.sub [0, 1] (by decide) rfl) hS (lv_sub hl [0, 1, 2, 3, 4, 5, 6, 7, 8, 9, 10, 11] rfl)
                        · have f_50 : ¬ t12_c75.toInt ≤ t15_c88.toInt := zi_nle c_50
                          refine lv_iload_n hx hb dX8_late_103 rfl (lv_at hl 8 rfl) ?_
                          refine lv_i2l (v := (k.toInt64)) hx hb dX8_late_104 rfl ?_
                          refine lv_goto (tgt := 113) hx hb dX8_late_105 (by decide) ?_
                          refine lv_lmul hx hb dX8_late_113 ?_
                          refine lv_topl (fun x_54 ex_54 => ?_)
                          clear ex_54
                          refine lv_lstore (lv' := [(13, .long x_54), (15, .int t15_c88), (12, .int t12_c75), (10, .long t10_c75), (8, .long t8_c75), (6, .long t6_c75), (0, .ref h), (1, .int w), (2, .int k), (3, .int n), (4, .int v), (5, .int q)]) hx hb dX8_late_114 hl (by decide) rfl (fun ls hl => ?_)
                          obtain ⟨x_55, ex_55⟩ : ∃ y : Int32, y = t15_c88 + Int32.ofInt 1 := ⟨_, rfl⟩
                          refine lv_iinc (v := x_55) (lv' := [(15, .int x_55), (13, .long x_54), (12, .int t12_c75), (10, .long t10_c75), (8, .long t8_c75), (6, .long t6_c75), (0, .ref h), (1, .int w), (2, .int k), (3, .int n), (4, .int v), (5, .int q)]) hx hb dX8_late_116 hl (k := 1) rfl ex_55.symm (by decide) rfl (fun ls hl => ?_)
                          have ex_55 : x_55 = t15_c88 + 1 := ex_55
                          have e_55 : x_55.toInt = t15_c88.toInt + 1 := by rw [ex_55]; exact zi_add (rfl) (by decide) (by omega) (by omega)
                          clear ex_55
                          refine lv_goto (tgt := 88) hx hb dX8_late_119 (by decide) ?_
                          exact ih88 x_55 x_54 _ _ _ (show 0 ≤ x_55.toInt ∧ x_55.toInt ≤ 6 from by omega) (by omega) (hP.sub [0, 1] rfl) (hD.sub [0, 1] (by decide) rfl) hS (lv_sub hl [0, 1, 2, 3, 4, 5, 6, 7, 8, 9, 10, 11] rfl)
                  exact hL88 (((n.toInt - (0 : Int32).toInt).toNat) + 1) 0 t10_c75 _ _ _ (show 0 ≤ 0 ∧ 0 ≤ 6 from by omega) (Nat.lt_succ_self _) (hP.sub [0, 1] rfl) (hD.sub [0, 1] (by decide) rfl) hS (lv_sub hl [0, 1, 2, 3, 4, 5, 6, 7, 8, 9, 10, 11] rfl)
            exact hL75 (((7 - (0 : Int32).toInt).toNat) + 1) 0 1 1 0 u_6 _ _ _ (show 0 ≤ 0 ∧ 0 ≤ 7 from by omega) (show 1 ≤ 1 ∧ 1 ≤ 10000000 from by omega) c6_0 (show (0 = 0 → 1 ≤ 1) ∧ (0 = 1 → 1 ≤ 10) ∧ (0 = 2 → 1 ≤ 100) ∧ (0 = 3 → 1 ≤ 1000) ∧ (0 = 4 → 1 ≤ 10000) ∧ (0 = 5 → 1 ≤ 100000) ∧ (0 = 6 → 1 ≤ 1000000) ∧ (0 = 7 → 1 ≤ 10000000) from by omega) (Nat.lt_succ_self _) (hP.sub [0, 1] rfl) (hD.sub [0, 1] (by decide) rfl) hS (lv_sub hl [0, 1, 2, 3, 4, 5, 6, 7, 8, 9] rfl)
          · subst e_5
            have f_5 : ¬ ((0 : Int) ≤ q.toInt ∧ q.toInt ≤ (1 : Int)) := by
              have h8 := f_5
              try simp only [zl_of] at h8
              exact h8
            refine lv_if_ne (tgt := 56) hx hb dX8_late_49 (by decide) (fun c9 => absurd (by decide) c9) (fun _ => ?_)
            refine lv_ldc2 (v := (-1000001)) hx hb hown (hts (.constantLong RX8 197 (-1000001)) (List.mem_of_getElem? (i := 3) rfl)) dX8_late_52 ?_
            exact wr_l (v := (-1000001)) hx hb hr hlocks hS sf (by exact hsi) (hP.sub [0, 1] rfl) (hD.sub [0, 1] (by decide) rfl) dX8_late_55
        · subst e_4
          refine lv_if_eq (tgt := 52) hx hb dX8_late_38 (by decide) (fun _ => ?_) (fun c9 => absurd (by decide) c9)
          refine lv_ldc2 (v := (-1000001)) hx hb hown (hts (.constantLong RX8 197 (-1000001)) (List.mem_of_getElem? (i := 3) rfl)) dX8_late_52 ?_
          exact wr_l (v := (-1000001)) hx hb hr hlocks hS sf (by exact hsi) (hP.sub [0, 1] rfl) (hD.sub [0, 1] (by decide) rfl) dX8_late_55
      · subst e_3
        have f_3 : ¬ ((0 : Int) ≤ n.toInt ∧ n.toInt ≤ (6 : Int)) := by
          have h8 := f_3
          try simp only [zl_of] at h8
          exact h8
        refine lv_if_eq (tgt := 52) hx hb dX8_late_29 (by decide) (fun _ => ?_) (fun c9 => absurd (by decide) c9)
        refine lv_ldc2 (v := (-1000001)) hx hb hown (hts (.constantLong RX8 197 (-1000001)) (List.mem_of_getElem? (i := 3) rfl)) dX8_late_52 ?_
        exact wr_l (v := (-1000001)) hx hb hr hlocks hS sf (by exact hsi) (hP.sub [0, 1] rfl) (hD.sub [0, 1] (by decide) rfl) dX8_late_55
    · subst e_2
      have f_2 : ¬ ((0 : Int) ≤ k.toInt ∧ k.toInt ≤ (10 : Int)) := by
        have h8 := f_2
        try simp only [zl_of] at h8
        exact h8
      refine lv_if_eq (tgt := 52) hx hb dX8_late_17 (by decide) (fun _ => ?_) (fun c9 => absurd (by decide) c9)
      refine lv_ldc2 (v := (-1000001)) hx hb hown (hts (.constantLong RX8 197 (-1000001)) (List.mem_of_getElem? (i := 3) rfl)) dX8_late_52 ?_
      exact wr_l (v := (-1000001)) hx hb hr hlocks hS sf (by exact hsi) (hP.sub [0, 1] rfl) (hD.sub [0, 1] (by decide) rfl) dX8_late_55
  · subst e_1
    refine lv_if_eq (tgt := 52) hx hb dX8_late_5 (by decide) (fun _ => ?_) (fun c9 => absurd (by decide) c9)
    refine lv_ldc2 (v := (-1000001)) hx hb hown (hts (.constantLong RX8 197 (-1000001)) (List.mem_of_getElem? (i := 3) rfl)) dX8_late_52 ?_
    exact wr_l (v := (-1000001)) hx hb hr hlocks hS sf (by exact hsi) (hP.sub [0, 1] rfl) (hD.sub [0, 1] (by decide) rfl) dX8_late_55
